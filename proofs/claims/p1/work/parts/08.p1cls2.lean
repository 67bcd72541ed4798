def wq_X6_track_e : List Cond := .code yX6_track cX6_track 3 (some .int) :: (([.methodLink RX6 34 yX6_requireCode, .static yX6_requireCode, .initialized RX6, .fieldLink RX6 15 "FluxBench" "trackCount" "I", .fieldLink RX6 11 "FluxBench" "tracks" "[LFluxBench$Track;", .classLink RX6 9 RX4, .instantiable RX4 12, .initialized RX4, .methodLink RX6 45 yX4_init, .instanceMethod yX4_init] : List Cond) ++ (u_ws RX6 TX6 7 ++ (u_ws RX4 TX4 12 ++ (wq_X6_requireCode_x ++ (wq_X4_init ++ ([] : List Cond))))))
theorem gd_X6_track_e : wq_X6_track_e.all goodWord = true := by decide +kernel
theorem n_X6_track_e_X6 : ∀ w ∈ u_ws RX6 TX6 7, w ∈ wq_X6_track_e := fun w h => List.mem_cons_of_mem _ (List.mem_append_right _ (List.mem_append_left _ h))
theorem n_X6_track_e_X4 : ∀ w ∈ u_ws RX4 TX4 12, w ∈ wq_X6_track_e := fun w h => List.mem_cons_of_mem _ (List.mem_append_right _ (List.mem_append_right _ (List.mem_append_left _ h)))
theorem h_X6_track_e_0 : GoodIn wq_X6_track_e (va_wsS RX6 34 yX6_requireCode wq_X6_requireCode_x) := goodIn_app (goodIn_r _ [1, 2, 3] (by decide +kernel) (by decide +kernel)) (goodIn_sub (fun w h => List.mem_cons_of_mem _ (List.mem_append_right _ (List.mem_append_right _ (List.mem_append_right _ (List.mem_append_left _ h))))) gd_X6_requireCode_x)
theorem h_X6_track_e_1 : GoodIn wq_X6_track_e (wq_X4_init) := goodIn_sub (fun w h => List.mem_cons_of_mem _ (List.mem_append_right _ (List.mem_append_right _ (List.mem_append_right _ (List.mem_append_right _ (List.mem_append_left _ h)))))) gd_X4_init
set_option maxHeartbeats 4000000 in
set_option maxRecDepth 100000 in
theorem c_X6_track_e (l : Launch) (D : va_G) (kA : Nat → ClassId) (z : Nat) (hfl : l.stackTraces = false) (h0 a : Nat) (x : Int32)  : xI l D (tyL kA) z yX6_track wq_X6_track_e ({ frames := 7, cells := 24, slots := 3424, locals := 120 }) [.ref h0, .int x] [(h0, .inr (7, [.ref a, .int (nI 0), .int (nI 8), .int (nI 0), .int (nI 0), .int (nI 0), .int (nI 0)])), (a, .inl (kA 2, 4, .inr (.inr (.inr (.inr (fun _ => none))))))] (fun r w => ∃ (n tr su vo fp fg t0 t1 t2 s1 s2 s3 s4 v1 p1 p2 g1 g2 r0 q0 r1 q1 r2 q2 : Nat), w = [(h0, .inr (7, [.ref a, .int (nI 1), .int (nI 8), .int (nI 0), .int (nI 0), .int (nI 0), .int (nI 0)])), (a, .inl (kA 2, 4, .inr (.inr (.inr (.inr (va_up (fun _ => none) 0 (some tr))))))), (tr, .inr (5, [.ref su, .ref vo, .ref fp, .ref fg, .ref t0, .ref t1, .ref t2, .int (nI n), .int (nI 0), .int (nI 0), .int (nI 0), .int (nI 0)])), (su, .inr (4, [.ref s1, .ref s2, .ref s3, .ref s4, .int (nI 0), .int (nI 0)])), (s1, .inl (kA 0, 400, .inl (fun _ => 0))), (s2, .inl (kA 0, 400, .inl (fun _ => 0))), (s3, .inl (kA 1, 400, .inl (fun _ => 0))), (s4, .inl (kA 0, 400, .inl (fun _ => 0))), (vo, .inr (3, [.ref v1, .int (nI 0), .int (nI 1)])), (v1, .inl (kA 0, 400, .inl (fun _ => 0))), (fp, .inr (2, [.int (nI 1), .ref p1, .ref p2, .int (nI 0), .int (nI 0), .int (nI 0), .int (nI 0), .int (nI 0), .int (nI 0)])), (p1, .inl (kA 0, 72, .inl (fun _ => 0))), (p2, .inl (kA 0, 8, .inl (fun _ => 0))), (fg, .inr (2, [.int (nI 2), .ref g1, .ref g2, .int (nI 0), .int (nI 0), .int (nI 0), .int (nI 0), .int (nI 0), .int (nI 0)])), (g1, .inl (kA 0, 72, .inl (fun _ => 0))), (g2, .inl (kA 0, 8, .inl (fun _ => 0))), (t0, .inr (6, [.ref r0, .double 4620693217682128896])), (r0, .inr (3, [.ref q0, .int (nI 0), .int (nI 1)])), (q0, .inl (kA 0, 400, .inl (fun _ => 0))), (t1, .inr (6, [.ref r1, .double 4620693217682128896])), (r1, .inr (3, [.ref q1, .int (nI 0), .int (nI 1)])), (q1, .inl (kA 0, 400, .inl (fun _ => 0))), (t2, .inr (6, [.ref r2, .double 4620693217682128896])), (r2, .inr (3, [.ref q2, .int (nI 0), .int (nI 1)])), (q2, .inl (kA 0, 400, .inl (fun _ => 0)))] ∧ n ≤ 2 ∧ x = nI n ∧ r = nI 0) (fun E w => (E = "java/lang/IllegalArgumentException" ∧ ∀ n : Nat, n ≤ 2 → x ≠ nI n) ∧ w = [(h0, .inr (7, [.ref a, .int (nI 0), .int (nI 8), .int (nI 0), .int (nI 0), .int (nI 0), .int (nI 0)])), (a, .inl (kA 2, 4, .inr (.inr (.inr (.inr (fun _ => none))))))]) := by
  refine ofxI (cc := cX6_track) (maxL := 3) RX6 rfl (by decide +kernel) rfl (Nat.le_of_ble_eq_true rfl) ?_
  intro p e s m args below meth c A ls hxt hE
  obtain ⟨hx, hb, hr, hml, hts, hown, hlocks, hA, hS, hP, hK, hD, hG, hl⟩ := hE
  have hl : lv_has ls 3 [(0, .ref h0), (1, .int x)] := hl
  have hH : s.heap = s.heap := rfl
  refine lv_iload_n hx hb dX6_track_0 rfl (lv_at hl 1 rfl) ?_
  have hF := va_free (wc := []) hD hS hA [] rfl
  refine vx_callv (vx_runS (As := [.int x]) (rest := []) ⟨hx, hb, hml, hown, hts⟩ (c_X6_requireCode_x l D kA z hfl x  _) (va_cwS 1 hts h_X6_track_e_0 rfl rfl rfl (by decide +kernel) ⟨Nat.le_of_ble_eq_true rfl, Nat.le_of_ble_eq_true rfl⟩) (fPs hK hP hD hS hG hF [] (by decide) rfl) rfl rfl hl.1 rfl (lv_room (Nat.le_of_ble_eq_true rfl)) dX6_track_1 ⟨Nat.le_of_ble_eq_true rfl, Nat.le_of_ble_eq_true rfl⟩) hS (fun q _ h => hF q h) hF (fun q _ h => hF q h) (fun E ce q9 u9 t H locs ht hvm hw hB hz1 hk1 hS hc9 hv9 hcl9 => ?_) (fun w1 t H locs ht hvm hw hB hz1 hk1 hS => ?_)
  ·
    obtain ⟨E9, w1⟩ := u9
    obtain ⟨e9, hB⟩ := hB
    have e9 : E9 = E := e9
    subst e9
    obtain ⟨hP, hD⟩ := fJ (wr := [(h0, .inr (7, [.ref a, .int (nI 0), .int (nI 8), .int (nI 0), .int (nI 0), .int (nI 0), .int (nI 0)])), (a, .inl (kA 2, 4, .inr (.inr (.inr (.inr (fun _ => none))))))]) hP hD [] [0, 1] rfl rfl (by decide) (by decide) hk1 hF ht hB
    obtain ⟨hE9, rfl⟩ := hw
    try dsimp only at hE9
    have hP : va_P D vwCl [(h0, .inr (7, [.ref a, .int (nI 0), .int (nI 8), .int (nI 0), .int (nI 0), .int (nI 0), .int (nI 0)])), (a, .inl (kA 2, 4, .inr (.inr (.inr (.inr (fun _ => none))))))] H := hP
    have hD : va_D A [(h0, .inr (7, [.ref a, .int (nI 0), .int (nI 8), .int (nI 0), .int (nI 0), .int (nI 0), .int (nI 0)])), (a, .inl (kA 2, 4, .inr (.inr (.inr (.inr (fun _ => none))))))] := hD
    exact vx_out (fun x9 h9 => (hxt x9 h9).elim) hlocks hc9 hv9 hcl9 (xEnd0 hK hP hD hS ⟨hE9, rfl⟩) hS.2.2 (Nat.le_of_ble_eq_true rfl) (Nat.le_of_ble_eq_true rfl)
  ·
    obtain ⟨hP, hD⟩ := fJ (wr := [(h0, .inr (7, [.ref a, .int (nI 0), .int (nI 8), .int (nI 0), .int (nI 0), .int (nI 0), .int (nI 0)])), (a, .inl (kA 2, 4, .inr (.inr (.inr (.inr (fun _ => none))))))]) hP hD [] [0, 1] rfl rfl (by decide) (by decide) hk1 hF ht hB
    try dsimp only at hw
    obtain ⟨n_1, rfl, h_1, e_1⟩ := hw
    subst e_1
    have hP : va_P D vwCl [(h0, .inr (7, [.ref a, .int (nI 0), .int (nI 8), .int (nI 0), .int (nI 0), .int (nI 0), .int (nI 0)])), (a, .inl (kA 2, 4, .inr (.inr (.inr (.inr (fun _ => none))))))] H := hP
    have hD : va_D A [(h0, .inr (7, [.ref a, .int (nI 0), .int (nI 8), .int (nI 0), .int (nI 0), .int (nI 0), .int (nI 0)])), (a, .inl (kA 2, 4, .inr (.inr (.inr (.inr (fun _ => none))))))] := hD
    refine lv_aload_n hx hb dX6_track_4 rfl (lv_at hl 0 rfl) ?_
    refine va_get (D := D) (ci := 7) (v := .int (nI 0)) (C := RX6) (T := TX6) (N := 7) hx hb hts n_X6_track_e_X6 hown hK hP 0 rfl rfl 1 (by decide) (wAt hts 4 (w := .fieldLink RX6 15 "FluxBench" "trackCount" "I") rfl) (fun _ h9 => h9) rfl dX6_track_5 ?_
    refine lv_istore_n (lv' := [(2, .int (nI 0)), (0, .ref h0), (1, .int (nI n_1))]) hx hb dX6_track_8 rfl hl (by decide) rfl (fun ls hl => ?_)
    refine lv_iload_n hx hb dX6_track_9 rfl (lv_at hl 0 rfl) ?_
    refine lv_if_lt (tgt := 22) hx hb dX6_track_10 (by decide) (fun c10 => absurd c10 (by decide)) (fun _ => ?_)
    refine lv_iload_n hx hb dX6_track_13 rfl (lv_at hl 0 rfl) ?_
    refine lv_aload_n hx hb dX6_track_14 rfl (lv_at hl 1 rfl) ?_
    refine va_get (D := D) (ci := 7) (v := .ref a) (C := RX6) (T := TX6) (N := 7) hx hb hts n_X6_track_e_X6 hown hK hP 0 rfl rfl 0 (by decide) (wAt hts 5 (w := .fieldLink RX6 11 "FluxBench" "tracks" "[LFluxBench$Track;") rfl) (fun _ h9 => h9) rfl dX6_track_15 ?_
    refine va_alen (v := nI 4) hx hb hK hP 1 2 rfl rfl rfl dX6_track_18 ?_
    refine lv_icmp_lt (tgt := 32) hx hb dX6_track_19 (by decide) (fun _ => ?_) (fun c19 => absurd (by decide) c19)
    refine lv_aload_n hx hb dX6_track_32 rfl (lv_at hl 1 rfl) ?_
    refine va_get (D := D) (ci := 7) (v := .ref a) (C := RX6) (T := TX6) (N := 7) hx hb hts n_X6_track_e_X6 hown hK hP 0 rfl rfl 0 (by decide) (wAt hts 5 (w := .fieldLink RX6 11 "FluxBench" "tracks" "[LFluxBench$Track;") rfl) (fun _ h9 => h9) rfl dX6_track_33 ?_
    refine lv_iload_n hx hb dX6_track_36 rfl (lv_at hl 0 rfl) ?_
    refine va_new (ci := 5) (fs := [.null, .null, .null, .null, .null, .null, .null, .int 0, .int 0, .int 0, .int 0, .int 0]) (C := RX4) (T := TX4) (N := 12) hx hb hts n_X6_track_e_X4 tyX4 tyX4_ok hown (wAt hts 6 (w := .classLink RX6 9 RX4) rfl) (wAt hts 7 (w := .instantiable RX4 12) rfl) (wAt hts 8 (w := .initialized RX4) rfl) hK hP hD hS hA rfl (fun j hj => by rcases j with _ | _ | _ | _ | _ | _ | _ | _ | _ | _ | _ | _ | _ <;> first | rfl | omega) (Nat.le_of_ble_eq_true rfl) (Nat.le_of_ble_eq_true rfl) dX6_track_37 (fun q_1 H hP hD hS => ?_)
    have hP : va_P D vwCl [(h0, .inr (7, [.ref a, .int (nI 0), .int (nI 8), .int (nI 0), .int (nI 0), .int (nI 0), .int (nI 0)])), (a, .inl (kA 2, 4, .inr (.inr (.inr (.inr (fun _ => none)))))), (q_1, .inr (5, [.null, .null, .null, .null, .null, .null, .null, .int 0, .int 0, .int 0, .int 0, .int 0]))] H := hP
    have hD : va_D A [(h0, .inr (7, [.ref a, .int (nI 0), .int (nI 8), .int (nI 0), .int (nI 0), .int (nI 0), .int (nI 0)])), (a, .inl (kA 2, 4, .inr (.inr (.inr (.inr (fun _ => none)))))), (q_1, .inr (5, [.null, .null, .null, .null, .null, .null, .null, .int 0, .int 0, .int 0, .int 0, .int 0]))] := hD
    refine lv_dup hx hb dX6_track_40 rfl ?_
    refine lv_iload_n hx hb dX6_track_41 rfl (lv_at hl 2 rfl) ?_
    have hF := va_free (wc := [(q_1, .inr (5, [.null, .null, .null, .null, .null, .null, .null, .int 0, .int 0, .int 0, .int 0, .int 0]))]) hD hS hA [2] rfl
    refine va_callv (va_runI (As := [.int (nI n_1)]) (rest := [.ref q_1, .int (nI 0), .ref a]) ⟨hx, hb, hml, hown, hts⟩ (c_X4_init l D kA z q_1 n_1  _) (cwI 1 hts h_X6_track_e_1 rfl rfl rfl (wAt hts 8 (w := .initialized RX4) rfl) (wAt hts 9 (w := .methodLink RX6 45 yX4_init) rfl) (wAt hts 10 (w := .instanceMethod yX4_init) rfl) rfl (by decide +kernel) ⟨Nat.le_of_ble_eq_true rfl, Nat.le_of_ble_eq_true rfl⟩) (fPs hK hP hD hS hG hF [2] (by decide) rfl) rfl rfl hl.1 rfl (lv_room (Nat.le_of_ble_eq_true rfl)) dX6_track_42 ⟨Nat.le_of_ble_eq_true rfl, Nat.le_of_ble_eq_true rfl⟩) hS (fun q _ h => hF q h) hF (fun w1 t H locs ht hvm hw hB hz1 hk1 hS => ?_)
    obtain ⟨hP, hD⟩ := fJ (wr := [(h0, .inr (7, [.ref a, .int (nI 0), .int (nI 8), .int (nI 0), .int (nI 0), .int (nI 0), .int (nI 0)])), (a, .inl (kA 2, 4, .inr (.inr (.inr (.inr (fun _ => none))))))]) hP hD [2] [0, 1] rfl rfl (by decide) (by decide) hk1 hF ht hB
    try dsimp only at hw
    obtain ⟨su_1, vo_1, fp_1, fg_1, t_1, t_2, t_3, s_1, s_2, s_3, s_4, v_1, p_1, p_2, g_1, g_2, r_1, q_2, r_2, q_3, r_3, q_4, rfl⟩ := hw
    have hP : va_P D vwCl [(h0, .inr (7, [.ref a, .int (nI 0), .int (nI 8), .int (nI 0), .int (nI 0), .int (nI 0), .int (nI 0)])), (a, .inl (kA 2, 4, .inr (.inr (.inr (.inr (fun _ => none)))))), (q_1, .inr (5, [.ref su_1, .ref vo_1, .ref fp_1, .ref fg_1, .ref t_1, .ref t_2, .ref t_3, .int (nI n_1), .int (nI 0), .int (nI 0), .int (nI 0), .int (nI 0)])), (su_1, .inr (4, [.ref s_1, .ref s_2, .ref s_3, .ref s_4, .int (nI 0), .int (nI 0)])), (s_1, .inl (kA 0, 400, .inl (fun _ => 0))), (s_2, .inl (kA 0, 400, .inl (fun _ => 0))), (s_3, .inl (kA 1, 400, .inl (fun _ => 0))), (s_4, .inl (kA 0, 400, .inl (fun _ => 0))), (vo_1, .inr (3, [.ref v_1, .int (nI 0), .int (nI 1)])), (v_1, .inl (kA 0, 400, .inl (fun _ => 0))), (fp_1, .inr (2, [.int (nI 1), .ref p_1, .ref p_2, .int (nI 0), .int (nI 0), .int (nI 0), .int (nI 0), .int (nI 0), .int (nI 0)])), (p_1, .inl (kA 0, 72, .inl (fun _ => 0))), (p_2, .inl (kA 0, 8, .inl (fun _ => 0))), (fg_1, .inr (2, [.int (nI 2), .ref g_1, .ref g_2, .int (nI 0), .int (nI 0), .int (nI 0), .int (nI 0), .int (nI 0), .int (nI 0)])), (g_1, .inl (kA 0, 72, .inl (fun _ => 0))), (g_2, .inl (kA 0, 8, .inl (fun _ => 0))), (t_1, .inr (6, [.ref r_1, .double 4620693217682128896])), (r_1, .inr (3, [.ref q_2, .int (nI 0), .int (nI 1)])), (q_2, .inl (kA 0, 400, .inl (fun _ => 0))), (t_2, .inr (6, [.ref r_2, .double 4620693217682128896])), (r_2, .inr (3, [.ref q_3, .int (nI 0), .int (nI 1)])), (q_3, .inl (kA 0, 400, .inl (fun _ => 0))), (t_3, .inr (6, [.ref r_3, .double 4620693217682128896])), (r_3, .inr (3, [.ref q_4, .int (nI 0), .int (nI 1)])), (q_4, .inl (kA 0, 400, .inl (fun _ => 0)))] H := hP
    have hD : va_D A [(h0, .inr (7, [.ref a, .int (nI 0), .int (nI 8), .int (nI 0), .int (nI 0), .int (nI 0), .int (nI 0)])), (a, .inl (kA 2, 4, .inr (.inr (.inr (.inr (fun _ => none)))))), (q_1, .inr (5, [.ref su_1, .ref vo_1, .ref fp_1, .ref fg_1, .ref t_1, .ref t_2, .ref t_3, .int (nI n_1), .int (nI 0), .int (nI 0), .int (nI 0), .int (nI 0)])), (su_1, .inr (4, [.ref s_1, .ref s_2, .ref s_3, .ref s_4, .int (nI 0), .int (nI 0)])), (s_1, .inl (kA 0, 400, .inl (fun _ => 0))), (s_2, .inl (kA 0, 400, .inl (fun _ => 0))), (s_3, .inl (kA 1, 400, .inl (fun _ => 0))), (s_4, .inl (kA 0, 400, .inl (fun _ => 0))), (vo_1, .inr (3, [.ref v_1, .int (nI 0), .int (nI 1)])), (v_1, .inl (kA 0, 400, .inl (fun _ => 0))), (fp_1, .inr (2, [.int (nI 1), .ref p_1, .ref p_2, .int (nI 0), .int (nI 0), .int (nI 0), .int (nI 0), .int (nI 0), .int (nI 0)])), (p_1, .inl (kA 0, 72, .inl (fun _ => 0))), (p_2, .inl (kA 0, 8, .inl (fun _ => 0))), (fg_1, .inr (2, [.int (nI 2), .ref g_1, .ref g_2, .int (nI 0), .int (nI 0), .int (nI 0), .int (nI 0), .int (nI 0), .int (nI 0)])), (g_1, .inl (kA 0, 72, .inl (fun _ => 0))), (g_2, .inl (kA 0, 8, .inl (fun _ => 0))), (t_1, .inr (6, [.ref r_1, .double 4620693217682128896])), (r_1, .inr (3, [.ref q_2, .int (nI 0), .int (nI 1)])), (q_2, .inl (kA 0, 400, .inl (fun _ => 0))), (t_2, .inr (6, [.ref r_2, .double 4620693217682128896])), (r_2, .inr (3, [.ref q_3, .int (nI 0), .int (nI 1)])), (q_3, .inl (kA 0, 400, .inl (fun _ => 0))), (t_3, .inr (6, [.ref r_3, .double 4620693217682128896])), (r_3, .inr (3, [.ref q_4, .int (nI 0), .int (nI 1)])), (q_4, .inl (kA 0, 400, .inl (fun _ => 0)))] := hD
    refine va_astq hx hb hK hP hD hS 1 2 2 5 rfl rfl rfl rfl (vp_in_nI (n := 0) (by omega) (by decide)) dX6_track_45 (fun H locs hP hD hS => ?_)
    rw [nI_clamp (n := 0) (by omega)] at hP hD
    have hP : va_P D vwCl [(h0, .inr (7, [.ref a, .int (nI 0), .int (nI 8), .int (nI 0), .int (nI 0), .int (nI 0), .int (nI 0)])), (a, .inl (kA 2, 4, .inr (.inr (.inr (.inr (va_up (fun _ => none) 0 (some q_1))))))), (q_1, .inr (5, [.ref su_1, .ref vo_1, .ref fp_1, .ref fg_1, .ref t_1, .ref t_2, .ref t_3, .int (nI n_1), .int (nI 0), .int (nI 0), .int (nI 0), .int (nI 0)])), (su_1, .inr (4, [.ref s_1, .ref s_2, .ref s_3, .ref s_4, .int (nI 0), .int (nI 0)])), (s_1, .inl (kA 0, 400, .inl (fun _ => 0))), (s_2, .inl (kA 0, 400, .inl (fun _ => 0))), (s_3, .inl (kA 1, 400, .inl (fun _ => 0))), (s_4, .inl (kA 0, 400, .inl (fun _ => 0))), (vo_1, .inr (3, [.ref v_1, .int (nI 0), .int (nI 1)])), (v_1, .inl (kA 0, 400, .inl (fun _ => 0))), (fp_1, .inr (2, [.int (nI 1), .ref p_1, .ref p_2, .int (nI 0), .int (nI 0), .int (nI 0), .int (nI 0), .int (nI 0), .int (nI 0)])), (p_1, .inl (kA 0, 72, .inl (fun _ => 0))), (p_2, .inl (kA 0, 8, .inl (fun _ => 0))), (fg_1, .inr (2, [.int (nI 2), .ref g_1, .ref g_2, .int (nI 0), .int (nI 0), .int (nI 0), .int (nI 0), .int (nI 0), .int (nI 0)])), (g_1, .inl (kA 0, 72, .inl (fun _ => 0))), (g_2, .inl (kA 0, 8, .inl (fun _ => 0))), (t_1, .inr (6, [.ref r_1, .double 4620693217682128896])), (r_1, .inr (3, [.ref q_2, .int (nI 0), .int (nI 1)])), (q_2, .inl (kA 0, 400, .inl (fun _ => 0))), (t_2, .inr (6, [.ref r_2, .double 4620693217682128896])), (r_2, .inr (3, [.ref q_3, .int (nI 0), .int (nI 1)])), (q_3, .inl (kA 0, 400, .inl (fun _ => 0))), (t_3, .inr (6, [.ref r_3, .double 4620693217682128896])), (r_3, .inr (3, [.ref q_4, .int (nI 0), .int (nI 1)])), (q_4, .inl (kA 0, 400, .inl (fun _ => 0)))] H := hP
    have hD : va_D A [(h0, .inr (7, [.ref a, .int (nI 0), .int (nI 8), .int (nI 0), .int (nI 0), .int (nI 0), .int (nI 0)])), (a, .inl (kA 2, 4, .inr (.inr (.inr (.inr (va_up (fun _ => none) 0 (some q_1))))))), (q_1, .inr (5, [.ref su_1, .ref vo_1, .ref fp_1, .ref fg_1, .ref t_1, .ref t_2, .ref t_3, .int (nI n_1), .int (nI 0), .int (nI 0), .int (nI 0), .int (nI 0)])), (su_1, .inr (4, [.ref s_1, .ref s_2, .ref s_3, .ref s_4, .int (nI 0), .int (nI 0)])), (s_1, .inl (kA 0, 400, .inl (fun _ => 0))), (s_2, .inl (kA 0, 400, .inl (fun _ => 0))), (s_3, .inl (kA 1, 400, .inl (fun _ => 0))), (s_4, .inl (kA 0, 400, .inl (fun _ => 0))), (vo_1, .inr (3, [.ref v_1, .int (nI 0), .int (nI 1)])), (v_1, .inl (kA 0, 400, .inl (fun _ => 0))), (fp_1, .inr (2, [.int (nI 1), .ref p_1, .ref p_2, .int (nI 0), .int (nI 0), .int (nI 0), .int (nI 0), .int (nI 0), .int (nI 0)])), (p_1, .inl (kA 0, 72, .inl (fun _ => 0))), (p_2, .inl (kA 0, 8, .inl (fun _ => 0))), (fg_1, .inr (2, [.int (nI 2), .ref g_1, .ref g_2, .int (nI 0), .int (nI 0), .int (nI 0), .int (nI 0), .int (nI 0), .int (nI 0)])), (g_1, .inl (kA 0, 72, .inl (fun _ => 0))), (g_2, .inl (kA 0, 8, .inl (fun _ => 0))), (t_1, .inr (6, [.ref r_1, .double 4620693217682128896])), (r_1, .inr (3, [.ref q_2, .int (nI 0), .int (nI 1)])), (q_2, .inl (kA 0, 400, .inl (fun _ => 0))), (t_2, .inr (6, [.ref r_2, .double 4620693217682128896])), (r_2, .inr (3, [.ref q_3, .int (nI 0), .int (nI 1)])), (q_3, .inl (kA 0, 400, .inl (fun _ => 0))), (t_3, .inr (6, [.ref r_3, .double 4620693217682128896])), (r_3, .inr (3, [.ref q_4, .int (nI 0), .int (nI 1)])), (q_4, .inl (kA 0, 400, .inl (fun _ => 0)))] := hD
    refine lv_aload_n hx hb dX6_track_46 rfl (lv_at hl 1 rfl) ?_
    refine lv_iload_n hx hb dX6_track_47 rfl (lv_at hl 0 rfl) ?_
    refine lv_iconst (v := nI 1) hx hb dX6_track_48 (by decide) ?_
    refine lv_iadd hx hb dX6_track_49 ?_
    rw [show nI 0 + nI 1 = nI 1 from by decide]
    refine va_put (D := D) (ci := 7) (v := .int (nI 1)) (ty := .int) (C := RX6) (T := TX6) (N := 7) hx hb hts n_X6_track_e_X6 tyX6 tyX6_ok nmX6 hown hK hP hD hS 0 rfl rfl 1 (by decide) (wAt hts 4 (w := .fieldLink RX6 15 "FluxBench" "trackCount" "I") rfl) (fun _ h9 => h9) rfl (by decide +kernel) rfl rfl (Nat.le_of_ble_eq_true rfl) dX6_track_50 (fun H locs hP hD hS => ?_)
    have hP : va_P D vwCl [(h0, .inr (7, [.ref a, .int (nI 1), .int (nI 8), .int (nI 0), .int (nI 0), .int (nI 0), .int (nI 0)])), (a, .inl (kA 2, 4, .inr (.inr (.inr (.inr (va_up (fun _ => none) 0 (some q_1))))))), (q_1, .inr (5, [.ref su_1, .ref vo_1, .ref fp_1, .ref fg_1, .ref t_1, .ref t_2, .ref t_3, .int (nI n_1), .int (nI 0), .int (nI 0), .int (nI 0), .int (nI 0)])), (su_1, .inr (4, [.ref s_1, .ref s_2, .ref s_3, .ref s_4, .int (nI 0), .int (nI 0)])), (s_1, .inl (kA 0, 400, .inl (fun _ => 0))), (s_2, .inl (kA 0, 400, .inl (fun _ => 0))), (s_3, .inl (kA 1, 400, .inl (fun _ => 0))), (s_4, .inl (kA 0, 400, .inl (fun _ => 0))), (vo_1, .inr (3, [.ref v_1, .int (nI 0), .int (nI 1)])), (v_1, .inl (kA 0, 400, .inl (fun _ => 0))), (fp_1, .inr (2, [.int (nI 1), .ref p_1, .ref p_2, .int (nI 0), .int (nI 0), .int (nI 0), .int (nI 0), .int (nI 0), .int (nI 0)])), (p_1, .inl (kA 0, 72, .inl (fun _ => 0))), (p_2, .inl (kA 0, 8, .inl (fun _ => 0))), (fg_1, .inr (2, [.int (nI 2), .ref g_1, .ref g_2, .int (nI 0), .int (nI 0), .int (nI 0), .int (nI 0), .int (nI 0), .int (nI 0)])), (g_1, .inl (kA 0, 72, .inl (fun _ => 0))), (g_2, .inl (kA 0, 8, .inl (fun _ => 0))), (t_1, .inr (6, [.ref r_1, .double 4620693217682128896])), (r_1, .inr (3, [.ref q_2, .int (nI 0), .int (nI 1)])), (q_2, .inl (kA 0, 400, .inl (fun _ => 0))), (t_2, .inr (6, [.ref r_2, .double 4620693217682128896])), (r_2, .inr (3, [.ref q_3, .int (nI 0), .int (nI 1)])), (q_3, .inl (kA 0, 400, .inl (fun _ => 0))), (t_3, .inr (6, [.ref r_3, .double 4620693217682128896])), (r_3, .inr (3, [.ref q_4, .int (nI 0), .int (nI 1)])), (q_4, .inl (kA 0, 400, .inl (fun _ => 0)))] H := hP
    have hD : va_D A [(h0, .inr (7, [.ref a, .int (nI 1), .int (nI 8), .int (nI 0), .int (nI 0), .int (nI 0), .int (nI 0)])), (a, .inl (kA 2, 4, .inr (.inr (.inr (.inr (va_up (fun _ => none) 0 (some q_1))))))), (q_1, .inr (5, [.ref su_1, .ref vo_1, .ref fp_1, .ref fg_1, .ref t_1, .ref t_2, .ref t_3, .int (nI n_1), .int (nI 0), .int (nI 0), .int (nI 0), .int (nI 0)])), (su_1, .inr (4, [.ref s_1, .ref s_2, .ref s_3, .ref s_4, .int (nI 0), .int (nI 0)])), (s_1, .inl (kA 0, 400, .inl (fun _ => 0))), (s_2, .inl (kA 0, 400, .inl (fun _ => 0))), (s_3, .inl (kA 1, 400, .inl (fun _ => 0))), (s_4, .inl (kA 0, 400, .inl (fun _ => 0))), (vo_1, .inr (3, [.ref v_1, .int (nI 0), .int (nI 1)])), (v_1, .inl (kA 0, 400, .inl (fun _ => 0))), (fp_1, .inr (2, [.int (nI 1), .ref p_1, .ref p_2, .int (nI 0), .int (nI 0), .int (nI 0), .int (nI 0), .int (nI 0), .int (nI 0)])), (p_1, .inl (kA 0, 72, .inl (fun _ => 0))), (p_2, .inl (kA 0, 8, .inl (fun _ => 0))), (fg_1, .inr (2, [.int (nI 2), .ref g_1, .ref g_2, .int (nI 0), .int (nI 0), .int (nI 0), .int (nI 0), .int (nI 0), .int (nI 0)])), (g_1, .inl (kA 0, 72, .inl (fun _ => 0))), (g_2, .inl (kA 0, 8, .inl (fun _ => 0))), (t_1, .inr (6, [.ref r_1, .double 4620693217682128896])), (r_1, .inr (3, [.ref q_2, .int (nI 0), .int (nI 1)])), (q_2, .inl (kA 0, 400, .inl (fun _ => 0))), (t_2, .inr (6, [.ref r_2, .double 4620693217682128896])), (r_2, .inr (3, [.ref q_3, .int (nI 0), .int (nI 1)])), (q_3, .inl (kA 0, 400, .inl (fun _ => 0))), (t_3, .inr (6, [.ref r_3, .double 4620693217682128896])), (r_3, .inr (3, [.ref q_4, .int (nI 0), .int (nI 1)])), (q_4, .inl (kA 0, 400, .inl (fun _ => 0)))] := hD
    refine lv_iload_n hx hb dX6_track_53 rfl (lv_at hl 0 rfl) ?_
    refine vx_ret ?_
    exact endI hx hb hr hlocks hK hP hD hS (⟨n_1, q_1, su_1, vo_1, fp_1, fg_1, t_1, t_2, t_3, s_1, s_2, s_3, s_4, v_1, p_1, p_2, g_1, g_2, r_1, q_2, r_2, q_3, r_3, q_4, rfl, by first | rfl | assumption | omega | (rw [if_pos (by omega)]; first | done | rfl) | (rw [if_neg (by omega)]; first | done | rfl), by first | rfl | assumption | omega | (rw [if_pos (by omega)]; first | done | rfl) | (rw [if_neg (by omega)]; first | done | rfl), by first | rfl | assumption | omega | (rw [if_pos (by omega)]; first | done | rfl) | (rw [if_neg (by omega)]; first | done | rfl)⟩) (Nat.le_of_ble_eq_true rfl) (Nat.le_of_ble_eq_true rfl) dX6_track_54

def wq_X6_speed_x : List Cond := .code yX6_speed cX6_speed 3 (some .int) :: (([.classLink RX6 47 "java/lang/IllegalArgumentException", .initialized "java/lang/IllegalArgumentException", .fieldLink RX6 19 "FluxBench" "speed" "I"] : List Cond) ++ (u_ws RX6 TX6 7 ++ ((vx_atS RX6 51 "java/lang/IllegalArgumentException" ["java/lang/RuntimeException", "java/lang/Exception"]).filter goodWord ++ ([] : List Cond))))
theorem gd_X6_speed_x : wq_X6_speed_x.all goodWord = true := by decide +kernel
theorem n_X6_speed_x_X6 : ∀ w ∈ u_ws RX6 TX6 7, w ∈ wq_X6_speed_x := fun w h => List.mem_cons_of_mem _ (List.mem_append_right _ (List.mem_append_left _ h))
set_option maxHeartbeats 4000000 in
set_option maxRecDepth 100000 in
theorem c_X6_speed_x (l : Launch) (D : va_G) (kA : Nat → ClassId) (z : Nat) (hfl : l.stackTraces = false) (h0 a : Nat) (tc sp dr rd pc rc x : Int32)  : xI l D (tyL kA) z yX6_speed wq_X6_speed_x ({ frames := 6, cells := 1, slots := 6, locals := 90 }) [.ref h0, .int x] [(h0, .inr (7, [.ref a, .int tc, .int sp, .int dr, .int rd, .int pc, .int rc]))] (fun r w => ∃ (n : Nat), w = [(h0, .inr (7, [.ref a, .int tc, .int (nI n), .int dr, .int rd, .int pc, .int rc]))] ∧ 6 ≤ n ∧ n ≤ 11 ∧ x = nI n ∧ r = sp) (fun E w => (E = "java/lang/IllegalArgumentException" ∧ ∀ n : Nat, 6 ≤ n → n ≤ 11 → x ≠ nI n) ∧ w = [(h0, .inr (7, [.ref a, .int tc, .int sp, .int dr, .int rd, .int pc, .int rc]))]) := by
  refine ofxI (cc := cX6_speed) (maxL := 3) RX6 rfl (by decide +kernel) rfl (Nat.le_of_ble_eq_true rfl) ?_
  intro p e s m args below meth c A ls hxt hE
  obtain ⟨hx, hb, hr, hml, hts, hown, hlocks, hA, hS, hP, hK, hD, hG, hl⟩ := hE
  have hl : lv_has ls 3 [(0, .ref h0), (1, .int x)] := hl
  have hH : s.heap = s.heap := rfl
  refine lv_iload_n hx hb dX6_speed_0 rfl (lv_at hl 1 rfl) ?_
  refine lv_bipush (v := nI 6) hx hb dX6_speed_1 (by decide) ?_
  refine lv_icmp_lt (tgt := 12) hx hb dX6_speed_3 (by decide) (fun c3 => ?_) (fun c3 => ?_)
  ·
    obtain ⟨sa9, hsa9⟩ := hG.2.2.1 _ (List.mem_of_getElem? (i := 1) rfl)
    exact vx_throwS (own := RX6) (cls := "java/lang/IllegalArgumentException") (text := "a speed is 6 to 11") (names := ["java/lang/RuntimeException", "java/lang/Exception"]) hx hb hfl hown (by decide +kernel) (by decide +kernel) (wAt hts 1 (w := .classLink RX6 47 "java/lang/IllegalArgumentException") rfl) (wAt hts 2 (w := .initialized "java/lang/IllegalArgumentException") rfl) hsa9 (exat_IllegalArgumentException (fun w h => hts w (List.mem_cons_of_mem _ (List.mem_append_right _ (List.mem_append_right _ (List.mem_append_left _ h))))) hG.2.2.2.1) exot_IllegalArgumentException hG.2.1.1 hG.2.1.2 hS (by rw [hml]; exact hl.1) dX6_speed_12 dX6_speed_15 dX6_speed_16 dX6_speed_18 dX6_speed_21 (fun x9 h9 => (hxt x9 h9).elim) (by decide) (Nat.le_of_ble_eq_true rfl) (Nat.le_of_ble_eq_true rfl) (Nat.le_of_ble_eq_true rfl) hlocks (xEnd hK hP hD hS ⟨⟨rfl, fun n9 h1 h2 e9 => by subst e9; first | (rw [qlt (by omega) (by decide)] at c3; omega) | (rw [qle (by omega) (by decide)] at c9; omega)⟩, rfl⟩) hS.2.2 (Nat.le_of_ble_eq_true rfl) (Nat.le_of_ble_eq_true rfl)
  ·
    refine lv_iload_n hx hb dX6_speed_6 rfl (lv_at hl 1 rfl) ?_
    refine lv_bipush (v := nI 11) hx hb dX6_speed_7 (by decide) ?_
    refine lv_icmp_le (tgt := 22) hx hb dX6_speed_9 (by decide) (fun c9 => ?_) (fun c9 => ?_)
    ·
      obtain ⟨n9, h91, h92, rfl⟩ := rq_mid (by decide) (by decide) c3 c9
      refine lv_aload_n hx hb dX6_speed_22 rfl (lv_at hl 0 rfl) ?_
      refine va_get (D := D) (ci := 7) (v := .int sp) (C := RX6) (T := TX6) (N := 7) hx hb hts n_X6_speed_x_X6 hown hK hP 0 rfl rfl 2 (by decide) (wAt hts 3 (w := .fieldLink RX6 19 "FluxBench" "speed" "I") rfl) (fun _ h9 => h9) rfl dX6_speed_23 ?_
      refine lv_istore_n (lv' := [(2, .int sp), (0, .ref h0), (1, .int (nI n9))]) hx hb dX6_speed_26 rfl hl (by decide) rfl (fun ls hl => ?_)
      refine lv_aload_n hx hb dX6_speed_27 rfl (lv_at hl 1 rfl) ?_
      refine lv_iload_n hx hb dX6_speed_28 rfl (lv_at hl 2 rfl) ?_
      refine va_put (D := D) (ci := 7) (v := .int (nI n9)) (ty := .int) (C := RX6) (T := TX6) (N := 7) hx hb hts n_X6_speed_x_X6 tyX6 tyX6_ok nmX6 hown hK hP hD hS 0 rfl rfl 2 (by decide) (wAt hts 3 (w := .fieldLink RX6 19 "FluxBench" "speed" "I") rfl) (fun _ h9 => h9) rfl (by decide +kernel) rfl rfl (Nat.le_of_ble_eq_true rfl) dX6_speed_29 (fun H locs hP hD hS => ?_)
      have hP : va_P D vwCl [(h0, .inr (7, [.ref a, .int tc, .int (nI n9), .int dr, .int rd, .int pc, .int rc]))] H := hP
      have hD : va_D A [(h0, .inr (7, [.ref a, .int tc, .int (nI n9), .int dr, .int rd, .int pc, .int rc]))] := hD
      refine lv_iload_n hx hb dX6_speed_32 rfl (lv_at hl 0 rfl) ?_
      refine vx_ret ?_
      exact endI hx hb hr hlocks hK hP hD hS (⟨n9, rfl, by first | rfl | assumption | omega | (rw [if_pos (by omega)]; first | done | rfl) | (rw [if_neg (by omega)]; first | done | rfl), by first | rfl | assumption | omega | (rw [if_pos (by omega)]; first | done | rfl) | (rw [if_neg (by omega)]; first | done | rfl), by first | rfl | assumption | omega | (rw [if_pos (by omega)]; first | done | rfl) | (rw [if_neg (by omega)]; first | done | rfl), by first | rfl | assumption | omega | (rw [if_pos (by omega)]; first | done | rfl) | (rw [if_neg (by omega)]; first | done | rfl)⟩) (Nat.le_of_ble_eq_true rfl) (Nat.le_of_ble_eq_true rfl) dX6_speed_33
    ·
      obtain ⟨sa9, hsa9⟩ := hG.2.2.1 _ (List.mem_of_getElem? (i := 1) rfl)
      exact vx_throwS (own := RX6) (cls := "java/lang/IllegalArgumentException") (text := "a speed is 6 to 11") (names := ["java/lang/RuntimeException", "java/lang/Exception"]) hx hb hfl hown (by decide +kernel) (by decide +kernel) (wAt hts 1 (w := .classLink RX6 47 "java/lang/IllegalArgumentException") rfl) (wAt hts 2 (w := .initialized "java/lang/IllegalArgumentException") rfl) hsa9 (exat_IllegalArgumentException (fun w h => hts w (List.mem_cons_of_mem _ (List.mem_append_right _ (List.mem_append_right _ (List.mem_append_left _ h))))) hG.2.2.2.1) exot_IllegalArgumentException hG.2.1.1 hG.2.1.2 hS (by rw [hml]; exact hl.1) dX6_speed_12 dX6_speed_15 dX6_speed_16 dX6_speed_18 dX6_speed_21 (fun x9 h9 => (hxt x9 h9).elim) (by decide) (Nat.le_of_ble_eq_true rfl) (Nat.le_of_ble_eq_true rfl) (Nat.le_of_ble_eq_true rfl) hlocks (xEnd hK hP hD hS ⟨⟨rfl, fun n9 h1 h2 e9 => by subst e9; first | (rw [qlt (by omega) (by decide)] at c3; omega) | (rw [qle (by omega) (by decide)] at c9; omega)⟩, rfl⟩) hS.2.2 (Nat.le_of_ble_eq_true rfl) (Nat.le_of_ble_eq_true rfl)

def wq_X6_shedCells_e : List Cond := .code yX6_shedCells cX6_shedCells 3 (some .int) :: (([.fieldLink RX6 15 "FluxBench" "trackCount" "I"] : List Cond) ++ (u_ws RX6 TX6 7 ++ ([] : List Cond)))
theorem gd_X6_shedCells_e : wq_X6_shedCells_e.all goodWord = true := by decide +kernel
theorem n_X6_shedCells_e_X6 : ∀ w ∈ u_ws RX6 TX6 7, w ∈ wq_X6_shedCells_e := fun w h => List.mem_cons_of_mem _ (List.mem_append_right _ (List.mem_append_left _ h))
set_option maxHeartbeats 4000000 in
set_option maxRecDepth 100000 in
theorem c_X6_shedCells_e (l : Launch) (D : va_G) (kA : Nat → ClassId) (z : Nat) (h0 a : Nat)  : mI l D (tyL kA) z yX6_shedCells wq_X6_shedCells_e ({ frames := 0, cells := 0, slots := 0, locals := 0 }) [.ref h0] [(h0, .inr (7, [.ref a, .int (nI 0), .int (nI 8), .int (nI 0), .int (nI 0), .int (nI 0), .int (nI 0)])), (a, .inl (kA 2, 4, .inr (.inr (.inr (.inr (fun _ => none))))))] (fun r w => w = [(h0, .inr (7, [.ref a, .int (nI 0), .int (nI 8), .int (nI 0), .int (nI 0), .int (nI 0), .int (nI 0)])), (a, .inl (kA 2, 4, .inr (.inr (.inr (.inr (fun _ => none))))))] ∧ r = nI 0) := by
  refine ofI (cc := cX6_shedCells) (maxL := 3) RX6 rfl (by decide +kernel) rfl (Nat.le_of_ble_eq_true rfl) ?_
  intro p e s m args below meth c A ls hE
  obtain ⟨hx, hb, hr, hml, hts, hown, hlocks, hA, hS, hP, hK, hD, hG, hl⟩ := hE
  have hl : lv_has ls 3 [(0, .ref h0)] := hl
  have hH : s.heap = s.heap := rfl
  refine lv_iconst (v := nI 0) hx hb dX6_shedCells_0 (by decide) ?_
  refine lv_istore_n (lv' := [(1, .int (nI 0)), (0, .ref h0)]) hx hb dX6_shedCells_1 rfl hl (by decide) rfl (fun ls hl => ?_)
  refine lv_iconst (v := nI 0) hx hb dX6_shedCells_2 (by decide) ?_
  refine lv_istore_n (lv' := [(2, .int (nI 0)), (1, .int (nI 0)), (0, .ref h0)]) hx hb dX6_shedCells_3 rfl hl (by decide) rfl (fun ls hl => ?_)
  refine lv_iload_n hx hb dX6_shedCells_4 rfl (lv_at hl 0 rfl) ?_
  refine lv_aload_n hx hb dX6_shedCells_5 rfl (lv_at hl 2 rfl) ?_
  refine va_get (D := D) (ci := 7) (v := .int (nI 0)) (C := RX6) (T := TX6) (N := 7) hx hb hts n_X6_shedCells_e_X6 hown hK hP 0 rfl rfl 1 (by decide) (wAt hts 1 (w := .fieldLink RX6 15 "FluxBench" "trackCount" "I") rfl) (fun _ h9 => h9) rfl dX6_shedCells_6 ?_
  refine lv_icmp_ge (tgt := 33) hx hb dX6_shedCells_9 (by decide) (fun _ => ?_) (fun c9 => absurd (by decide) c9)
  refine lv_iload_n hx hb dX6_shedCells_33 rfl (lv_at hl 1 rfl) ?_
  exact endI hx hb hr hlocks hK hP hD hS (⟨rfl, by first | rfl | assumption | omega | (rw [if_pos (by omega)]; first | done | rfl) | (rw [if_neg (by omega)]; first | done | rfl)⟩) (Nat.le_of_ble_eq_true rfl) (Nat.le_of_ble_eq_true rfl) dX6_shedCells_34

def wq_X6_many_e : List Cond := .code yX6_many cX6_many 2 (some .int) :: (([.methodLink RX6 170 yX6_requireWhat, .static yX6_requireWhat, .initialized RX6, .fieldLink RX6 15 "FluxBench" "trackCount" "I", .fieldLink RX6 19 "FluxBench" "speed" "I", .fieldLink RX6 22 "FluxBench" "draw" "I", .fieldLink RX6 25 "FluxBench" "reads" "I", .methodLink RX6 235 yX6_shedCells, .instanceMethod yX6_shedCells, .selects RX6 yX6_shedCells yX6_shedCells, .fieldLink RX6 28 "FluxBench" "plainCopies" "I", .fieldLink RX6 31 "FluxBench" "rawCopies" "I"] : List Cond) ++ (u_ws RX6 TX6 7 ++ (wq_X6_requireWhat_x ++ (wq_X6_shedCells_e ++ ([] : List Cond)))))
theorem gd_X6_many_e : wq_X6_many_e.all goodWord = true := by decide +kernel
theorem n_X6_many_e_X6 : ∀ w ∈ u_ws RX6 TX6 7, w ∈ wq_X6_many_e := fun w h => List.mem_cons_of_mem _ (List.mem_append_right _ (List.mem_append_left _ h))
theorem h_X6_many_e_0 : GoodIn wq_X6_many_e (va_wsS RX6 170 yX6_requireWhat wq_X6_requireWhat_x) := goodIn_app (goodIn_r _ [1, 2, 3] (by decide +kernel) (by decide +kernel)) (goodIn_sub (fun w h => List.mem_cons_of_mem _ (List.mem_append_right _ (List.mem_append_right _ (List.mem_append_left _ h)))) gd_X6_requireWhat_x)
theorem h_X6_many_e_1 : GoodIn wq_X6_many_e (wsV RX6 235 RX6 yX6_shedCells wq_X6_shedCells_e) := goodIn_app (goodIn_r _ [8, 9, 10, 3] (by decide +kernel) (by decide +kernel)) (goodIn_sub (fun w h => List.mem_cons_of_mem _ (List.mem_append_right _ (List.mem_append_right _ (List.mem_append_right _ (List.mem_append_left _ h))))) gd_X6_shedCells_e)
set_option maxHeartbeats 4000000 in
set_option maxRecDepth 100000 in
theorem c_X6_many_e (l : Launch) (D : va_G) (kA : Nat → ClassId) (z : Nat) (hfl : l.stackTraces = false) (h0 a : Nat) (x : Int32)  : xI l D (tyL kA) z yX6_many wq_X6_many_e ({ frames := 7, cells := 1, slots := 6, locals := 120 }) [.ref h0, .int x] [(h0, .inr (7, [.ref a, .int (nI 0), .int (nI 8), .int (nI 0), .int (nI 0), .int (nI 0), .int (nI 0)])), (a, .inl (kA 2, 4, .inr (.inr (.inr (.inr (fun _ => none))))))] (fun r w => ∃ (n : Nat), w = [(h0, .inr (7, [.ref a, .int (nI 0), .int (nI 8), .int (nI 0), .int (nI 0), .int (nI 0), .int (nI 0)])), (a, .inl (kA 2, 4, .inr (.inr (.inr (.inr (fun _ => none))))))] ∧ n ≤ 6 ∧ x = nI n ∧ r = nI ([0, 8, 0, 0, 0, 0, 0].getD n 0)) (fun E w => (E = "java/lang/IllegalArgumentException" ∧ ∀ n : Nat, n ≤ 6 → x ≠ nI n) ∧ w = [(h0, .inr (7, [.ref a, .int (nI 0), .int (nI 8), .int (nI 0), .int (nI 0), .int (nI 0), .int (nI 0)])), (a, .inl (kA 2, 4, .inr (.inr (.inr (.inr (fun _ => none))))))]) := by
  refine ofxI (cc := cX6_many) (maxL := 2) RX6 rfl (by decide +kernel) rfl (Nat.le_of_ble_eq_true rfl) ?_
  intro p e s m args below meth c A ls hxt hE
  obtain ⟨hx, hb, hr, hml, hts, hown, hlocks, hA, hS, hP, hK, hD, hG, hl⟩ := hE
  have hl : lv_has ls 2 [(0, .ref h0), (1, .int x)] := hl
  have hH : s.heap = s.heap := rfl
  refine lv_iload_n hx hb dX6_many_0 rfl (lv_at hl 1 rfl) ?_
  refine lv_bipush (v := nI 6) hx hb dX6_many_1 (by decide) ?_
  have hF := va_free (wc := []) hD hS hA [] rfl
  refine vx_callv (vx_runS (As := [.int x, .int (nI 6)]) (rest := []) ⟨hx, hb, hml, hown, hts⟩ (c_X6_requireWhat_x l D kA z hfl x 6 (by omega) _) (va_cwS 2 hts h_X6_many_e_0 rfl rfl rfl (by decide +kernel) ⟨Nat.le_of_ble_eq_true rfl, Nat.le_of_ble_eq_true rfl⟩) (fPs hK hP hD hS hG hF [] (by decide) rfl) rfl rfl hl.1 rfl (lv_room (Nat.le_of_ble_eq_true rfl)) dX6_many_3 ⟨Nat.le_of_ble_eq_true rfl, Nat.le_of_ble_eq_true rfl⟩) hS (fun q _ h => hF q h) hF (fun q _ h => hF q h) (fun E ce q9 u9 t H locs ht hvm hw hB hz1 hk1 hS hc9 hv9 hcl9 => ?_) (fun w1 t H locs ht hvm hw hB hz1 hk1 hS => ?_)
  ·
    obtain ⟨E9, w1⟩ := u9
    obtain ⟨e9, hB⟩ := hB
    have e9 : E9 = E := e9
    subst e9
    obtain ⟨hP, hD⟩ := fJ (wr := [(h0, .inr (7, [.ref a, .int (nI 0), .int (nI 8), .int (nI 0), .int (nI 0), .int (nI 0), .int (nI 0)])), (a, .inl (kA 2, 4, .inr (.inr (.inr (.inr (fun _ => none))))))]) hP hD [] [0, 1] rfl rfl (by decide) (by decide) hk1 hF ht hB
    obtain ⟨hE9, rfl⟩ := hw
    try dsimp only at hE9
    have hP : va_P D vwCl [(h0, .inr (7, [.ref a, .int (nI 0), .int (nI 8), .int (nI 0), .int (nI 0), .int (nI 0), .int (nI 0)])), (a, .inl (kA 2, 4, .inr (.inr (.inr (.inr (fun _ => none))))))] H := hP
    have hD : va_D A [(h0, .inr (7, [.ref a, .int (nI 0), .int (nI 8), .int (nI 0), .int (nI 0), .int (nI 0), .int (nI 0)])), (a, .inl (kA 2, 4, .inr (.inr (.inr (.inr (fun _ => none))))))] := hD
    exact vx_out (fun x9 h9 => (hxt x9 h9).elim) hlocks hc9 hv9 hcl9 (xEnd0 hK hP hD hS ⟨hE9, rfl⟩) hS.2.2 (Nat.le_of_ble_eq_true rfl) (Nat.le_of_ble_eq_true rfl)
  ·
    obtain ⟨hP, hD⟩ := fJ (wr := [(h0, .inr (7, [.ref a, .int (nI 0), .int (nI 8), .int (nI 0), .int (nI 0), .int (nI 0), .int (nI 0)])), (a, .inl (kA 2, 4, .inr (.inr (.inr (.inr (fun _ => none))))))]) hP hD [] [0, 1] rfl rfl (by decide) (by decide) hk1 hF ht hB
    try dsimp only at hw
    obtain ⟨n_1, rfl, h_1, e_1⟩ := hw
    subst e_1
    have hP : va_P D vwCl [(h0, .inr (7, [.ref a, .int (nI 0), .int (nI 8), .int (nI 0), .int (nI 0), .int (nI 0), .int (nI 0)])), (a, .inl (kA 2, 4, .inr (.inr (.inr (.inr (fun _ => none))))))] H := hP
    have hD : va_D A [(h0, .inr (7, [.ref a, .int (nI 0), .int (nI 8), .int (nI 0), .int (nI 0), .int (nI 0), .int (nI 0)])), (a, .inl (kA 2, 4, .inr (.inr (.inr (.inr (fun _ => none))))))] := hD
    refine lv_iload_n hx hb dX6_many_6 rfl (lv_at hl 1 rfl) ?_
    rcases (show n_1 = 0 ∨ n_1 = 1 ∨ n_1 = 2 ∨ n_1 = 3 ∨ n_1 = 4 ∨ n_1 = 5 ∨ n_1 = 6 by omega) with rfl | rfl | rfl | rfl | rfl | rfl | rfl
    ·
      refine lv_tableIn (off := 37) (tgt := 44) hx hb dX6_many_7 (by decide) (by decide) (by decide) (by decide) ?_
      refine lv_aload_n hx hb dX6_many_44 rfl (lv_at hl 0 rfl) ?_
      refine va_get (D := D) (ci := 7) (v := .int (nI 0)) (C := RX6) (T := TX6) (N := 7) hx hb hts n_X6_many_e_X6 hown hK hP 0 rfl rfl 1 (by decide) (wAt hts 4 (w := .fieldLink RX6 15 "FluxBench" "trackCount" "I") rfl) (fun _ h9 => h9) rfl dX6_many_45 ?_
      refine vx_ret ?_
      exact endI hx hb hr hlocks hK hP hD hS (⟨0, rfl, by first | rfl | assumption | omega | (rw [if_pos (by omega)]; first | done | rfl) | (rw [if_neg (by omega)]; first | done | rfl), by first | rfl | assumption | omega | (rw [if_pos (by omega)]; first | done | rfl) | (rw [if_neg (by omega)]; first | done | rfl), by first | rfl | assumption | omega | (rw [if_pos (by omega)]; first | done | rfl) | (rw [if_neg (by omega)]; first | done | rfl)⟩) (Nat.le_of_ble_eq_true rfl) (Nat.le_of_ble_eq_true rfl) dX6_many_48
    ·
      refine lv_tableIn (off := 42) (tgt := 49) hx hb dX6_many_7 (by decide) (by decide) (by decide) (by decide) ?_
      refine lv_aload_n hx hb dX6_many_49 rfl (lv_at hl 0 rfl) ?_
      refine va_get (D := D) (ci := 7) (v := .int (nI 8)) (C := RX6) (T := TX6) (N := 7) hx hb hts n_X6_many_e_X6 hown hK hP 0 rfl rfl 2 (by decide) (wAt hts 5 (w := .fieldLink RX6 19 "FluxBench" "speed" "I") rfl) (fun _ h9 => h9) rfl dX6_many_50 ?_
      refine vx_ret ?_
      exact endI hx hb hr hlocks hK hP hD hS (⟨1, rfl, by first | rfl | assumption | omega | (rw [if_pos (by omega)]; first | done | rfl) | (rw [if_neg (by omega)]; first | done | rfl), by first | rfl | assumption | omega | (rw [if_pos (by omega)]; first | done | rfl) | (rw [if_neg (by omega)]; first | done | rfl), by first | rfl | assumption | omega | (rw [if_pos (by omega)]; first | done | rfl) | (rw [if_neg (by omega)]; first | done | rfl)⟩) (Nat.le_of_ble_eq_true rfl) (Nat.le_of_ble_eq_true rfl) dX6_many_53
    ·
      refine lv_tableIn (off := 47) (tgt := 54) hx hb dX6_many_7 (by decide) (by decide) (by decide) (by decide) ?_
      refine lv_aload_n hx hb dX6_many_54 rfl (lv_at hl 0 rfl) ?_
      refine va_get (D := D) (ci := 7) (v := .int (nI 0)) (C := RX6) (T := TX6) (N := 7) hx hb hts n_X6_many_e_X6 hown hK hP 0 rfl rfl 3 (by decide) (wAt hts 6 (w := .fieldLink RX6 22 "FluxBench" "draw" "I") rfl) (fun _ h9 => h9) rfl dX6_many_55 ?_
      refine vx_ret ?_
      exact endI hx hb hr hlocks hK hP hD hS (⟨2, rfl, by first | rfl | assumption | omega | (rw [if_pos (by omega)]; first | done | rfl) | (rw [if_neg (by omega)]; first | done | rfl), by first | rfl | assumption | omega | (rw [if_pos (by omega)]; first | done | rfl) | (rw [if_neg (by omega)]; first | done | rfl), by first | rfl | assumption | omega | (rw [if_pos (by omega)]; first | done | rfl) | (rw [if_neg (by omega)]; first | done | rfl)⟩) (Nat.le_of_ble_eq_true rfl) (Nat.le_of_ble_eq_true rfl) dX6_many_58
    ·
      refine lv_tableIn (off := 52) (tgt := 59) hx hb dX6_many_7 (by decide) (by decide) (by decide) (by decide) ?_
      refine lv_aload_n hx hb dX6_many_59 rfl (lv_at hl 0 rfl) ?_
      refine va_get (D := D) (ci := 7) (v := .int (nI 0)) (C := RX6) (T := TX6) (N := 7) hx hb hts n_X6_many_e_X6 hown hK hP 0 rfl rfl 4 (by decide) (wAt hts 7 (w := .fieldLink RX6 25 "FluxBench" "reads" "I") rfl) (fun _ h9 => h9) rfl dX6_many_60 ?_
      refine vx_ret ?_
      exact endI hx hb hr hlocks hK hP hD hS (⟨3, rfl, by first | rfl | assumption | omega | (rw [if_pos (by omega)]; first | done | rfl) | (rw [if_neg (by omega)]; first | done | rfl), by first | rfl | assumption | omega | (rw [if_pos (by omega)]; first | done | rfl) | (rw [if_neg (by omega)]; first | done | rfl), by first | rfl | assumption | omega | (rw [if_pos (by omega)]; first | done | rfl) | (rw [if_neg (by omega)]; first | done | rfl)⟩) (Nat.le_of_ble_eq_true rfl) (Nat.le_of_ble_eq_true rfl) dX6_many_63
    ·
      refine lv_tableIn (off := 57) (tgt := 64) hx hb dX6_many_7 (by decide) (by decide) (by decide) (by decide) ?_
      refine lv_aload_n hx hb dX6_many_64 rfl (lv_at hl 0 rfl) ?_
      have hF := va_free (wc := [(h0, .inr (7, [.ref a, .int (nI 0), .int (nI 8), .int (nI 0), .int (nI 0), .int (nI 0), .int (nI 0)])), (a, .inl (kA 2, 4, .inr (.inr (.inr (.inr (fun _ => none))))))]) hD hS hA [0, 1] rfl
      refine va_calli (va_runV (As := []) (rest := []) ⟨hx, hb, hml, hown, hts⟩ (c_X6_shedCells_e l D kA z h0 a  _) (cwV 0 hts h_X6_many_e_1 rfl rfl rfl (by decide +kernel) ⟨Nat.le_of_ble_eq_true rfl, Nat.le_of_ble_eq_true rfl⟩) (fPv hK hP hD hS hG hF [0, 1] (by decide) rfl 0 7 rfl rfl rfl) rfl rfl hl.1 rfl (lv_room (Nat.le_of_ble_eq_true rfl)) dX6_many_65 ⟨Nat.le_of_ble_eq_true rfl, Nat.le_of_ble_eq_true rfl⟩) hS (fun q _ h => hF q h) hF (fun r_1 w1 t H locs ht hvm hw hB hz1 hk1 hS => ?_)
      obtain ⟨hP, hD⟩ := fJ (wr := []) hP hD [0, 1] [] rfl rfl (by decide) (by decide) hk1 hF ht hB
      try dsimp only at hw
      obtain ⟨rfl, e_2⟩ := hw
      replace e_2 := e_2.symm
      subst e_2
      have hP : va_P D vwCl [(h0, .inr (7, [.ref a, .int (nI 0), .int (nI 8), .int (nI 0), .int (nI 0), .int (nI 0), .int (nI 0)])), (a, .inl (kA 2, 4, .inr (.inr (.inr (.inr (fun _ => none))))))] H := hP
      have hD : va_D A [(h0, .inr (7, [.ref a, .int (nI 0), .int (nI 8), .int (nI 0), .int (nI 0), .int (nI 0), .int (nI 0)])), (a, .inl (kA 2, 4, .inr (.inr (.inr (.inr (fun _ => none))))))] := hD
      refine vx_ret ?_
      exact endI hx hb hr hlocks hK hP hD hS (⟨4, rfl, by first | rfl | assumption | omega | (rw [if_pos (by omega)]; first | done | rfl) | (rw [if_neg (by omega)]; first | done | rfl), by first | rfl | assumption | omega | (rw [if_pos (by omega)]; first | done | rfl) | (rw [if_neg (by omega)]; first | done | rfl), by first | rfl | assumption | omega | (rw [if_pos (by omega)]; first | done | rfl) | (rw [if_neg (by omega)]; first | done | rfl)⟩) (Nat.le_of_ble_eq_true rfl) (Nat.le_of_ble_eq_true rfl) dX6_many_68
    ·
      refine lv_tableIn (off := 62) (tgt := 69) hx hb dX6_many_7 (by decide) (by decide) (by decide) (by decide) ?_
      refine lv_aload_n hx hb dX6_many_69 rfl (lv_at hl 0 rfl) ?_
      refine va_get (D := D) (ci := 7) (v := .int (nI 0)) (C := RX6) (T := TX6) (N := 7) hx hb hts n_X6_many_e_X6 hown hK hP 0 rfl rfl 5 (by decide) (wAt hts 11 (w := .fieldLink RX6 28 "FluxBench" "plainCopies" "I") rfl) (fun _ h9 => h9) rfl dX6_many_70 ?_
      refine vx_ret ?_
      exact endI hx hb hr hlocks hK hP hD hS (⟨5, rfl, by first | rfl | assumption | omega | (rw [if_pos (by omega)]; first | done | rfl) | (rw [if_neg (by omega)]; first | done | rfl), by first | rfl | assumption | omega | (rw [if_pos (by omega)]; first | done | rfl) | (rw [if_neg (by omega)]; first | done | rfl), by first | rfl | assumption | omega | (rw [if_pos (by omega)]; first | done | rfl) | (rw [if_neg (by omega)]; first | done | rfl)⟩) (Nat.le_of_ble_eq_true rfl) (Nat.le_of_ble_eq_true rfl) dX6_many_73
    ·
      refine lv_tableOut (tgt := 74) hx hb dX6_many_7 (by decide) (by decide) ?_
      refine lv_aload_n hx hb dX6_many_74 rfl (lv_at hl 0 rfl) ?_
      refine va_get (D := D) (ci := 7) (v := .int (nI 0)) (C := RX6) (T := TX6) (N := 7) hx hb hts n_X6_many_e_X6 hown hK hP 0 rfl rfl 6 (by decide) (wAt hts 12 (w := .fieldLink RX6 31 "FluxBench" "rawCopies" "I") rfl) (fun _ h9 => h9) rfl dX6_many_75 ?_
      refine vx_ret ?_
      exact endI hx hb hr hlocks hK hP hD hS (⟨6, rfl, by first | rfl | assumption | omega | (rw [if_pos (by omega)]; first | done | rfl) | (rw [if_neg (by omega)]; first | done | rfl), by first | rfl | assumption | omega | (rw [if_pos (by omega)]; first | done | rfl) | (rw [if_neg (by omega)]; first | done | rfl), by first | rfl | assumption | omega | (rw [if_pos (by omega)]; first | done | rfl) | (rw [if_neg (by omega)]; first | done | rfl)⟩) (Nat.le_of_ble_eq_true rfl) (Nat.le_of_ble_eq_true rfl) dX6_many_78

def wq_X6_many_c : List Cond := .code yX6_many cX6_many 2 (some .int) :: (([.methodLink RX6 170 yX6_requireWhat, .static yX6_requireWhat, .initialized RX6, .fieldLink RX6 15 "FluxBench" "trackCount" "I", .fieldLink RX6 19 "FluxBench" "speed" "I", .fieldLink RX6 22 "FluxBench" "draw" "I", .fieldLink RX6 25 "FluxBench" "reads" "I", .methodLink RX6 235 yX6_shedCells, .instanceMethod yX6_shedCells, .selects RX6 yX6_shedCells yX6_shedCells, .fieldLink RX6 28 "FluxBench" "plainCopies" "I", .fieldLink RX6 31 "FluxBench" "rawCopies" "I"] : List Cond) ++ (u_ws RX6 TX6 7 ++ (wq_X6_requireWhat ++ (wq_X6_shedCells_e ++ ([] : List Cond)))))
theorem gd_X6_many_c : wq_X6_many_c.all goodWord = true := by decide +kernel
theorem n_X6_many_c_X6 : ∀ w ∈ u_ws RX6 TX6 7, w ∈ wq_X6_many_c := fun w h => List.mem_cons_of_mem _ (List.mem_append_right _ (List.mem_append_left _ h))
theorem h_X6_many_c_0 : GoodIn wq_X6_many_c (va_wsS RX6 170 yX6_requireWhat wq_X6_requireWhat) := goodIn_app (goodIn_r _ [1, 2, 3] (by decide +kernel) (by decide +kernel)) (goodIn_sub (fun w h => List.mem_cons_of_mem _ (List.mem_append_right _ (List.mem_append_right _ (List.mem_append_left _ h)))) gd_X6_requireWhat)
theorem h_X6_many_c_1 : GoodIn wq_X6_many_c (wsV RX6 235 RX6 yX6_shedCells wq_X6_shedCells_e) := goodIn_app (goodIn_r _ [8, 9, 10, 3] (by decide +kernel) (by decide +kernel)) (goodIn_sub (fun w h => List.mem_cons_of_mem _ (List.mem_append_right _ (List.mem_append_right _ (List.mem_append_right _ (List.mem_append_left _ h))))) gd_X6_shedCells_e)
set_option maxHeartbeats 4000000 in
set_option maxRecDepth 100000 in
theorem c_X6_many_c (l : Launch) (D : va_G) (kA : Nat → ClassId) (z : Nat) (h0 a n : Nat) (hn : n ≤ 6) : mI l D (tyL kA) z yX6_many wq_X6_many_c ({ frames := 2, cells := 0, slots := 0, locals := 60 }) [.ref h0, .int (nI n)] [(h0, .inr (7, [.ref a, .int (nI 0), .int (nI 8), .int (nI 0), .int (nI 0), .int (nI 0), .int (nI 0)])), (a, .inl (kA 2, 4, .inr (.inr (.inr (.inr (fun _ => none))))))] (fun r w => w = [(h0, .inr (7, [.ref a, .int (nI 0), .int (nI 8), .int (nI 0), .int (nI 0), .int (nI 0), .int (nI 0)])), (a, .inl (kA 2, 4, .inr (.inr (.inr (.inr (fun _ => none))))))] ∧ r = nI ([0, 8, 0, 0, 0, 0, 0].getD n 0)) := by
  refine ofI (cc := cX6_many) (maxL := 2) RX6 rfl (by decide +kernel) rfl (Nat.le_of_ble_eq_true rfl) ?_
  intro p e s m args below meth c A ls hE
  obtain ⟨hx, hb, hr, hml, hts, hown, hlocks, hA, hS, hP, hK, hD, hG, hl⟩ := hE
  have hl : lv_has ls 2 [(0, .ref h0), (1, .int (nI n))] := hl
  have hH : s.heap = s.heap := rfl
  refine lv_iload_n hx hb dX6_many_0 rfl (lv_at hl 1 rfl) ?_
  refine lv_bipush (v := nI 6) hx hb dX6_many_1 (by decide) ?_
  have hF := va_free (wc := []) hD hS hA [] rfl
  refine va_callv (va_runS (As := [.int (nI n), .int (nI 6)]) (rest := []) ⟨hx, hb, hml, hown, hts⟩ (c_X6_requireWhat l D kA z n 6 (by omega) (by omega) _) (va_cwS 2 hts h_X6_many_c_0 rfl rfl rfl (by decide +kernel) ⟨Nat.le_of_ble_eq_true rfl, Nat.le_of_ble_eq_true rfl⟩) (fPs hK hP hD hS hG hF [] (by decide) rfl) rfl rfl hl.1 rfl (lv_room (Nat.le_of_ble_eq_true rfl)) dX6_many_3 ⟨Nat.le_of_ble_eq_true rfl, Nat.le_of_ble_eq_true rfl⟩) hS (fun q _ h => hF q h) hF (fun w1 t H locs ht hvm hw hB hz1 hk1 hS => ?_)
  obtain ⟨hP, hD⟩ := fJ (wr := [(h0, .inr (7, [.ref a, .int (nI 0), .int (nI 8), .int (nI 0), .int (nI 0), .int (nI 0), .int (nI 0)])), (a, .inl (kA 2, 4, .inr (.inr (.inr (.inr (fun _ => none))))))]) hP hD [] [0, 1] rfl rfl (by decide) (by decide) hk1 hF ht hB
  try dsimp only at hw
  subst hw
  have hP : va_P D vwCl [(h0, .inr (7, [.ref a, .int (nI 0), .int (nI 8), .int (nI 0), .int (nI 0), .int (nI 0), .int (nI 0)])), (a, .inl (kA 2, 4, .inr (.inr (.inr (.inr (fun _ => none))))))] H := hP
  have hD : va_D A [(h0, .inr (7, [.ref a, .int (nI 0), .int (nI 8), .int (nI 0), .int (nI 0), .int (nI 0), .int (nI 0)])), (a, .inl (kA 2, 4, .inr (.inr (.inr (.inr (fun _ => none))))))] := hD
  refine lv_iload_n hx hb dX6_many_6 rfl (lv_at hl 1 rfl) ?_
  rcases (show n = 0 ∨ n = 1 ∨ n = 2 ∨ n = 3 ∨ n = 4 ∨ n = 5 ∨ n = 6 by omega) with rfl | rfl | rfl | rfl | rfl | rfl | rfl
  ·
    refine lv_tableIn (off := 37) (tgt := 44) hx hb dX6_many_7 (by decide) (by decide) (by decide) (by decide) ?_
    refine lv_aload_n hx hb dX6_many_44 rfl (lv_at hl 0 rfl) ?_
    refine va_get (D := D) (ci := 7) (v := .int (nI 0)) (C := RX6) (T := TX6) (N := 7) hx hb hts n_X6_many_c_X6 hown hK hP 0 rfl rfl 1 (by decide) (wAt hts 4 (w := .fieldLink RX6 15 "FluxBench" "trackCount" "I") rfl) (fun _ h9 => h9) rfl dX6_many_45 ?_
    exact endI hx hb hr hlocks hK hP hD hS (⟨rfl, by first | rfl | assumption | omega | (rw [if_pos (by omega)]; first | done | rfl) | (rw [if_neg (by omega)]; first | done | rfl)⟩) (Nat.le_of_ble_eq_true rfl) (Nat.le_of_ble_eq_true rfl) dX6_many_48
  ·
    refine lv_tableIn (off := 42) (tgt := 49) hx hb dX6_many_7 (by decide) (by decide) (by decide) (by decide) ?_
    refine lv_aload_n hx hb dX6_many_49 rfl (lv_at hl 0 rfl) ?_
    refine va_get (D := D) (ci := 7) (v := .int (nI 8)) (C := RX6) (T := TX6) (N := 7) hx hb hts n_X6_many_c_X6 hown hK hP 0 rfl rfl 2 (by decide) (wAt hts 5 (w := .fieldLink RX6 19 "FluxBench" "speed" "I") rfl) (fun _ h9 => h9) rfl dX6_many_50 ?_
    exact endI hx hb hr hlocks hK hP hD hS (⟨rfl, by first | rfl | assumption | omega | (rw [if_pos (by omega)]; first | done | rfl) | (rw [if_neg (by omega)]; first | done | rfl)⟩) (Nat.le_of_ble_eq_true rfl) (Nat.le_of_ble_eq_true rfl) dX6_many_53
  ·
    refine lv_tableIn (off := 47) (tgt := 54) hx hb dX6_many_7 (by decide) (by decide) (by decide) (by decide) ?_
    refine lv_aload_n hx hb dX6_many_54 rfl (lv_at hl 0 rfl) ?_
    refine va_get (D := D) (ci := 7) (v := .int (nI 0)) (C := RX6) (T := TX6) (N := 7) hx hb hts n_X6_many_c_X6 hown hK hP 0 rfl rfl 3 (by decide) (wAt hts 6 (w := .fieldLink RX6 22 "FluxBench" "draw" "I") rfl) (fun _ h9 => h9) rfl dX6_many_55 ?_
    exact endI hx hb hr hlocks hK hP hD hS (⟨rfl, by first | rfl | assumption | omega | (rw [if_pos (by omega)]; first | done | rfl) | (rw [if_neg (by omega)]; first | done | rfl)⟩) (Nat.le_of_ble_eq_true rfl) (Nat.le_of_ble_eq_true rfl) dX6_many_58
  ·
    refine lv_tableIn (off := 52) (tgt := 59) hx hb dX6_many_7 (by decide) (by decide) (by decide) (by decide) ?_
    refine lv_aload_n hx hb dX6_many_59 rfl (lv_at hl 0 rfl) ?_
    refine va_get (D := D) (ci := 7) (v := .int (nI 0)) (C := RX6) (T := TX6) (N := 7) hx hb hts n_X6_many_c_X6 hown hK hP 0 rfl rfl 4 (by decide) (wAt hts 7 (w := .fieldLink RX6 25 "FluxBench" "reads" "I") rfl) (fun _ h9 => h9) rfl dX6_many_60 ?_
    exact endI hx hb hr hlocks hK hP hD hS (⟨rfl, by first | rfl | assumption | omega | (rw [if_pos (by omega)]; first | done | rfl) | (rw [if_neg (by omega)]; first | done | rfl)⟩) (Nat.le_of_ble_eq_true rfl) (Nat.le_of_ble_eq_true rfl) dX6_many_63
  ·
    refine lv_tableIn (off := 57) (tgt := 64) hx hb dX6_many_7 (by decide) (by decide) (by decide) (by decide) ?_
    refine lv_aload_n hx hb dX6_many_64 rfl (lv_at hl 0 rfl) ?_
    have hF := va_free (wc := [(h0, .inr (7, [.ref a, .int (nI 0), .int (nI 8), .int (nI 0), .int (nI 0), .int (nI 0), .int (nI 0)])), (a, .inl (kA 2, 4, .inr (.inr (.inr (.inr (fun _ => none))))))]) hD hS hA [0, 1] rfl
    refine va_calli (va_runV (As := []) (rest := []) ⟨hx, hb, hml, hown, hts⟩ (c_X6_shedCells_e l D kA z h0 a  _) (cwV 0 hts h_X6_many_c_1 rfl rfl rfl (by decide +kernel) ⟨Nat.le_of_ble_eq_true rfl, Nat.le_of_ble_eq_true rfl⟩) (fPv hK hP hD hS hG hF [0, 1] (by decide) rfl 0 7 rfl rfl rfl) rfl rfl hl.1 rfl (lv_room (Nat.le_of_ble_eq_true rfl)) dX6_many_65 ⟨Nat.le_of_ble_eq_true rfl, Nat.le_of_ble_eq_true rfl⟩) hS (fun q _ h => hF q h) hF (fun r_1 w1 t H locs ht hvm hw hB hz1 hk1 hS => ?_)
    obtain ⟨hP, hD⟩ := fJ (wr := []) hP hD [0, 1] [] rfl rfl (by decide) (by decide) hk1 hF ht hB
    try dsimp only at hw
    obtain ⟨rfl, e_1⟩ := hw
    replace e_1 := e_1.symm
    subst e_1
    have hP : va_P D vwCl [(h0, .inr (7, [.ref a, .int (nI 0), .int (nI 8), .int (nI 0), .int (nI 0), .int (nI 0), .int (nI 0)])), (a, .inl (kA 2, 4, .inr (.inr (.inr (.inr (fun _ => none))))))] H := hP
    have hD : va_D A [(h0, .inr (7, [.ref a, .int (nI 0), .int (nI 8), .int (nI 0), .int (nI 0), .int (nI 0), .int (nI 0)])), (a, .inl (kA 2, 4, .inr (.inr (.inr (.inr (fun _ => none))))))] := hD
    exact endI hx hb hr hlocks hK hP hD hS (⟨rfl, by first | rfl | assumption | omega | (rw [if_pos (by omega)]; first | done | rfl) | (rw [if_neg (by omega)]; first | done | rfl)⟩) (Nat.le_of_ble_eq_true rfl) (Nat.le_of_ble_eq_true rfl) dX6_many_68
  ·
    refine lv_tableIn (off := 62) (tgt := 69) hx hb dX6_many_7 (by decide) (by decide) (by decide) (by decide) ?_
    refine lv_aload_n hx hb dX6_many_69 rfl (lv_at hl 0 rfl) ?_
    refine va_get (D := D) (ci := 7) (v := .int (nI 0)) (C := RX6) (T := TX6) (N := 7) hx hb hts n_X6_many_c_X6 hown hK hP 0 rfl rfl 5 (by decide) (wAt hts 11 (w := .fieldLink RX6 28 "FluxBench" "plainCopies" "I") rfl) (fun _ h9 => h9) rfl dX6_many_70 ?_
    exact endI hx hb hr hlocks hK hP hD hS (⟨rfl, by first | rfl | assumption | omega | (rw [if_pos (by omega)]; first | done | rfl) | (rw [if_neg (by omega)]; first | done | rfl)⟩) (Nat.le_of_ble_eq_true rfl) (Nat.le_of_ble_eq_true rfl) dX6_many_73
  ·
    refine lv_tableOut (tgt := 74) hx hb dX6_many_7 (by decide) (by decide) ?_
    refine lv_aload_n hx hb dX6_many_74 rfl (lv_at hl 0 rfl) ?_
    refine va_get (D := D) (ci := 7) (v := .int (nI 0)) (C := RX6) (T := TX6) (N := 7) hx hb hts n_X6_many_c_X6 hown hK hP 0 rfl rfl 6 (by decide) (wAt hts 12 (w := .fieldLink RX6 31 "FluxBench" "rawCopies" "I") rfl) (fun _ h9 => h9) rfl dX6_many_75 ?_
    exact endI hx hb hr hlocks hK hP hD hS (⟨rfl, by first | rfl | assumption | omega | (rw [if_pos (by omega)]; first | done | rfl) | (rw [if_neg (by omega)]; first | done | rfl)⟩) (Nat.le_of_ble_eq_true rfl) (Nat.le_of_ble_eq_true rfl) dX6_many_78

def wq_X6_digest_e : List Cond := .code yX6_digest cX6_digest 4 (some .long) :: (([.constantLong RX6 245 (9601), .constantLong RX6 247 (31), .methodLink RX6 249 yX6_many, .instanceMethod yX6_many, .selects RX6 yX6_many yX6_many, .initialized RX6, .fieldLink RX6 15 "FluxBench" "trackCount" "I"] : List Cond) ++ (u_ws RX6 TX6 7 ++ (wq_X6_many_c ++ ([] : List Cond))))
theorem gd_X6_digest_e : wq_X6_digest_e.all goodWord = true := by decide +kernel
theorem n_X6_digest_e_X6 : ∀ w ∈ u_ws RX6 TX6 7, w ∈ wq_X6_digest_e := fun w h => List.mem_cons_of_mem _ (List.mem_append_right _ (List.mem_append_left _ h))
theorem h_X6_digest_e_0 : GoodIn wq_X6_digest_e (wsV RX6 249 RX6 yX6_many wq_X6_many_c) := goodIn_app (goodIn_r _ [3, 4, 5, 6] (by decide +kernel) (by decide +kernel)) (goodIn_sub (fun w h => List.mem_cons_of_mem _ (List.mem_append_right _ (List.mem_append_right _ (List.mem_append_left _ h)))) gd_X6_many_c)
set_option maxHeartbeats 4000000 in
set_option maxRecDepth 100000 in
theorem c_X6_digest_e (l : Launch) (D : va_G) (kA : Nat → ClassId) (z : Nat) (h0 a : Nat)  : mL l D (tyL kA) z yX6_digest wq_X6_digest_e ({ frames := 3, cells := 0, slots := 0, locals := 90 }) [.ref h0] [(h0, .inr (7, [.ref a, .int (nI 0), .int (nI 8), .int (nI 0), .int (nI 0), .int (nI 0), .int (nI 0)])), (a, .inl (kA 2, 4, .inr (.inr (.inr (.inr (fun _ => none))))))] (fun r w => w = [(h0, .inr (7, [.ref a, .int (nI 0), .int (nI 8), .int (nI 0), .int (nI 0), .int (nI 0), .int (nI 0)])), (a, .inl (kA 2, 4, .inr (.inr (.inr (.inr (fun _ => none))))))] ∧ r = 264148837112919) := by
  refine ofL (cc := cX6_digest) (maxL := 4) RX6 rfl (by decide +kernel) rfl (Nat.le_of_ble_eq_true rfl) ?_
  intro p e s m args below meth c A ls hE
  obtain ⟨hx, hb, hr, hml, hts, hown, hlocks, hA, hS, hP, hK, hD, hG, hl⟩ := hE
  have hl : lv_has ls 4 [(0, .ref h0)] := hl
  have hH : s.heap = s.heap := rfl
  refine lv_ldc2 hx hb hown (wAt hts 1 (w := .constantLong RX6 245 (9601)) rfl) dX6_digest_0 ?_
  refine lv_lstore_n (lv' := [(1, .long (9601)), (0, .ref h0)]) hx hb dX6_digest_3 rfl hl (by decide) rfl (fun ls hl => ?_)
  refine lv_iconst (v := nI 0) hx hb dX6_digest_4 (by decide) ?_
  refine lv_istore_n (lv' := [(3, .int (nI 0)), (1, .long (9601)), (0, .ref h0)]) hx hb dX6_digest_5 rfl hl (by decide) rfl (fun ls hl => ?_)
  refine lv_iload_n hx hb dX6_digest_6 rfl (lv_at hl 0 rfl) ?_
  refine lv_bipush (v := nI 6) hx hb dX6_digest_7 (by decide) ?_
  refine lv_icmp_gt (tgt := 31) hx hb dX6_digest_9 (by decide) (fun c9 => absurd c9 (by decide)) (fun _ => ?_)
  refine lv_lload_n hx hb dX6_digest_12 rfl (lv_at hl 1 rfl) ?_
  refine lv_ldc2 hx hb hown (wAt hts 2 (w := .constantLong RX6 247 (31)) rfl) dX6_digest_13 ?_
  refine lv_lmul hx hb dX6_digest_16 ?_
  refine lv_aload_n hx hb dX6_digest_17 rfl (lv_at hl 2 rfl) ?_
  refine lv_iload_n hx hb dX6_digest_18 rfl (lv_at hl 0 rfl) ?_
  have hF := va_free (wc := [(h0, .inr (7, [.ref a, .int (nI 0), .int (nI 8), .int (nI 0), .int (nI 0), .int (nI 0), .int (nI 0)])), (a, .inl (kA 2, 4, .inr (.inr (.inr (.inr (fun _ => none))))))]) hD hS hA [0, 1] rfl
  refine va_calli (va_runV (As := [.int (nI 0)]) (rest := [.long ((9601) * (31))]) ⟨hx, hb, hml, hown, hts⟩ (c_X6_many_c l D kA z h0 a 0 (by decide) _) (cwV 1 hts h_X6_digest_e_0 rfl rfl rfl (by decide +kernel) ⟨Nat.le_of_ble_eq_true rfl, Nat.le_of_ble_eq_true rfl⟩) (fPv hK hP hD hS hG hF [0, 1] (by decide) rfl 0 7 rfl rfl rfl) rfl rfl hl.1 rfl (lv_room (Nat.le_of_ble_eq_true rfl)) dX6_digest_19 ⟨Nat.le_of_ble_eq_true rfl, Nat.le_of_ble_eq_true rfl⟩) hS (fun q _ h => hF q h) hF (fun r_1 w1 t H locs ht hvm hw hB hz1 hk1 hS => ?_)
  obtain ⟨hP, hD⟩ := fJ (wr := []) hP hD [0, 1] [] rfl rfl (by decide) (by decide) hk1 hF ht hB
  try dsimp only at hw
  obtain ⟨rfl, e_1⟩ := hw
  replace e_1 := e_1.symm
  subst e_1
  have hP : va_P D vwCl [(h0, .inr (7, [.ref a, .int (nI 0), .int (nI 8), .int (nI 0), .int (nI 0), .int (nI 0), .int (nI 0)])), (a, .inl (kA 2, 4, .inr (.inr (.inr (.inr (fun _ => none))))))] H := hP
  have hD : va_D A [(h0, .inr (7, [.ref a, .int (nI 0), .int (nI 8), .int (nI 0), .int (nI 0), .int (nI 0), .int (nI 0)])), (a, .inl (kA 2, 4, .inr (.inr (.inr (.inr (fun _ => none))))))] := hD
  refine lv_i2l (v := (nI ([0, 8, 0, 0, 0, 0, 0].getD 0 0)).toInt64) hx hb dX6_digest_22 rfl ?_
  refine lv_ladd hx hb dX6_digest_23 ?_
  refine lv_lstore_n (lv' := [(1, .long (((9601) * (31)) + (nI ([0, 8, 0, 0, 0, 0, 0].getD 0 0)).toInt64)), (3, .int (nI 0)), (0, .ref h0)]) hx hb dX6_digest_24 rfl hl (by decide) rfl (fun ls hl => ?_)
  refine lv_iinc (v := nI 1) (lv' := [(3, .int (nI 1)), (1, .long (((9601) * (31)) + (nI ([0, 8, 0, 0, 0, 0, 0].getD 0 0)).toInt64)), (0, .ref h0)]) hx hb dX6_digest_25 hl (k := 1) rfl (by decide) (by decide) rfl (fun ls hl => ?_)
  refine lv_goto (tgt := 6) hx hb dX6_digest_28 (by decide) ?_
  refine lv_iload_n hx hb dX6_digest_6 rfl (lv_at hl 0 rfl) ?_
  refine lv_bipush (v := nI 6) hx hb dX6_digest_7 (by decide) ?_
  refine lv_icmp_gt (tgt := 31) hx hb dX6_digest_9 (by decide) (fun c9 => absurd c9 (by decide)) (fun _ => ?_)
  refine lv_lload_n hx hb dX6_digest_12 rfl (lv_at hl 1 rfl) ?_
  refine lv_ldc2 hx hb hown (wAt hts 2 (w := .constantLong RX6 247 (31)) rfl) dX6_digest_13 ?_
  refine lv_lmul hx hb dX6_digest_16 ?_
  refine lv_aload_n hx hb dX6_digest_17 rfl (lv_at hl 2 rfl) ?_
  refine lv_iload_n hx hb dX6_digest_18 rfl (lv_at hl 0 rfl) ?_
  have hF := va_free (wc := [(h0, .inr (7, [.ref a, .int (nI 0), .int (nI 8), .int (nI 0), .int (nI 0), .int (nI 0), .int (nI 0)])), (a, .inl (kA 2, 4, .inr (.inr (.inr (.inr (fun _ => none))))))]) hD hS hA [0, 1] rfl
  refine va_calli (va_runV (As := [.int (nI 1)]) (rest := [.long ((((9601) * (31)) + (nI ([0, 8, 0, 0, 0, 0, 0].getD 0 0)).toInt64) * (31))]) ⟨hx, hb, hml, hown, hts⟩ (c_X6_many_c l D kA z h0 a 1 (by decide) _) (cwV 1 hts h_X6_digest_e_0 rfl rfl rfl (by decide +kernel) ⟨Nat.le_of_ble_eq_true rfl, Nat.le_of_ble_eq_true rfl⟩) (fPv hK hP hD hS hG hF [0, 1] (by decide) rfl 0 7 rfl rfl rfl) rfl rfl hl.1 rfl (lv_room (Nat.le_of_ble_eq_true rfl)) dX6_digest_19 ⟨Nat.le_of_ble_eq_true rfl, Nat.le_of_ble_eq_true rfl⟩) hS (fun q _ h => hF q h) hF (fun r_2 w1 t H locs ht hvm hw hB hz1 hk1 hS => ?_)
  obtain ⟨hP, hD⟩ := fJ (wr := []) hP hD [0, 1] [] rfl rfl (by decide) (by decide) hk1 hF ht hB
  try dsimp only at hw
  obtain ⟨rfl, e_2⟩ := hw
  replace e_2 := e_2.symm
  subst e_2
  have hP : va_P D vwCl [(h0, .inr (7, [.ref a, .int (nI 0), .int (nI 8), .int (nI 0), .int (nI 0), .int (nI 0), .int (nI 0)])), (a, .inl (kA 2, 4, .inr (.inr (.inr (.inr (fun _ => none))))))] H := hP
  have hD : va_D A [(h0, .inr (7, [.ref a, .int (nI 0), .int (nI 8), .int (nI 0), .int (nI 0), .int (nI 0), .int (nI 0)])), (a, .inl (kA 2, 4, .inr (.inr (.inr (.inr (fun _ => none))))))] := hD
  refine lv_i2l (v := (nI ([0, 8, 0, 0, 0, 0, 0].getD 1 0)).toInt64) hx hb dX6_digest_22 rfl ?_
  refine lv_ladd hx hb dX6_digest_23 ?_
  refine lv_lstore_n (lv' := [(1, .long (((((9601) * (31)) + (nI ([0, 8, 0, 0, 0, 0, 0].getD 0 0)).toInt64) * (31)) + (nI ([0, 8, 0, 0, 0, 0, 0].getD 1 0)).toInt64)), (3, .int (nI 1)), (0, .ref h0)]) hx hb dX6_digest_24 rfl hl (by decide) rfl (fun ls hl => ?_)
  refine lv_iinc (v := nI 2) (lv' := [(3, .int (nI 2)), (1, .long (((((9601) * (31)) + (nI ([0, 8, 0, 0, 0, 0, 0].getD 0 0)).toInt64) * (31)) + (nI ([0, 8, 0, 0, 0, 0, 0].getD 1 0)).toInt64)), (0, .ref h0)]) hx hb dX6_digest_25 hl (k := 1) rfl (by decide) (by decide) rfl (fun ls hl => ?_)
  refine lv_goto (tgt := 6) hx hb dX6_digest_28 (by decide) ?_
  refine lv_iload_n hx hb dX6_digest_6 rfl (lv_at hl 0 rfl) ?_
  refine lv_bipush (v := nI 6) hx hb dX6_digest_7 (by decide) ?_
  refine lv_icmp_gt (tgt := 31) hx hb dX6_digest_9 (by decide) (fun c9 => absurd c9 (by decide)) (fun _ => ?_)
  refine lv_lload_n hx hb dX6_digest_12 rfl (lv_at hl 1 rfl) ?_
  refine lv_ldc2 hx hb hown (wAt hts 2 (w := .constantLong RX6 247 (31)) rfl) dX6_digest_13 ?_
  refine lv_lmul hx hb dX6_digest_16 ?_
  refine lv_aload_n hx hb dX6_digest_17 rfl (lv_at hl 2 rfl) ?_
  refine lv_iload_n hx hb dX6_digest_18 rfl (lv_at hl 0 rfl) ?_
  have hF := va_free (wc := [(h0, .inr (7, [.ref a, .int (nI 0), .int (nI 8), .int (nI 0), .int (nI 0), .int (nI 0), .int (nI 0)])), (a, .inl (kA 2, 4, .inr (.inr (.inr (.inr (fun _ => none))))))]) hD hS hA [0, 1] rfl
  refine va_calli (va_runV (As := [.int (nI 2)]) (rest := [.long ((((((9601) * (31)) + (nI ([0, 8, 0, 0, 0, 0, 0].getD 0 0)).toInt64) * (31)) + (nI ([0, 8, 0, 0, 0, 0, 0].getD 1 0)).toInt64) * (31))]) ⟨hx, hb, hml, hown, hts⟩ (c_X6_many_c l D kA z h0 a 2 (by decide) _) (cwV 1 hts h_X6_digest_e_0 rfl rfl rfl (by decide +kernel) ⟨Nat.le_of_ble_eq_true rfl, Nat.le_of_ble_eq_true rfl⟩) (fPv hK hP hD hS hG hF [0, 1] (by decide) rfl 0 7 rfl rfl rfl) rfl rfl hl.1 rfl (lv_room (Nat.le_of_ble_eq_true rfl)) dX6_digest_19 ⟨Nat.le_of_ble_eq_true rfl, Nat.le_of_ble_eq_true rfl⟩) hS (fun q _ h => hF q h) hF (fun r_3 w1 t H locs ht hvm hw hB hz1 hk1 hS => ?_)
  obtain ⟨hP, hD⟩ := fJ (wr := []) hP hD [0, 1] [] rfl rfl (by decide) (by decide) hk1 hF ht hB
  try dsimp only at hw
  obtain ⟨rfl, e_3⟩ := hw
  replace e_3 := e_3.symm
  subst e_3
  have hP : va_P D vwCl [(h0, .inr (7, [.ref a, .int (nI 0), .int (nI 8), .int (nI 0), .int (nI 0), .int (nI 0), .int (nI 0)])), (a, .inl (kA 2, 4, .inr (.inr (.inr (.inr (fun _ => none))))))] H := hP
  have hD : va_D A [(h0, .inr (7, [.ref a, .int (nI 0), .int (nI 8), .int (nI 0), .int (nI 0), .int (nI 0), .int (nI 0)])), (a, .inl (kA 2, 4, .inr (.inr (.inr (.inr (fun _ => none))))))] := hD
  refine lv_i2l (v := (nI ([0, 8, 0, 0, 0, 0, 0].getD 2 0)).toInt64) hx hb dX6_digest_22 rfl ?_
  refine lv_ladd hx hb dX6_digest_23 ?_
  refine lv_lstore_n (lv' := [(1, .long (((((((9601) * (31)) + (nI ([0, 8, 0, 0, 0, 0, 0].getD 0 0)).toInt64) * (31)) + (nI ([0, 8, 0, 0, 0, 0, 0].getD 1 0)).toInt64) * (31)) + (nI ([0, 8, 0, 0, 0, 0, 0].getD 2 0)).toInt64)), (3, .int (nI 2)), (0, .ref h0)]) hx hb dX6_digest_24 rfl hl (by decide) rfl (fun ls hl => ?_)
  refine lv_iinc (v := nI 3) (lv' := [(3, .int (nI 3)), (1, .long (((((((9601) * (31)) + (nI ([0, 8, 0, 0, 0, 0, 0].getD 0 0)).toInt64) * (31)) + (nI ([0, 8, 0, 0, 0, 0, 0].getD 1 0)).toInt64) * (31)) + (nI ([0, 8, 0, 0, 0, 0, 0].getD 2 0)).toInt64)), (0, .ref h0)]) hx hb dX6_digest_25 hl (k := 1) rfl (by decide) (by decide) rfl (fun ls hl => ?_)
  refine lv_goto (tgt := 6) hx hb dX6_digest_28 (by decide) ?_
  refine lv_iload_n hx hb dX6_digest_6 rfl (lv_at hl 0 rfl) ?_
  refine lv_bipush (v := nI 6) hx hb dX6_digest_7 (by decide) ?_
  refine lv_icmp_gt (tgt := 31) hx hb dX6_digest_9 (by decide) (fun c9 => absurd c9 (by decide)) (fun _ => ?_)
  refine lv_lload_n hx hb dX6_digest_12 rfl (lv_at hl 1 rfl) ?_
  refine lv_ldc2 hx hb hown (wAt hts 2 (w := .constantLong RX6 247 (31)) rfl) dX6_digest_13 ?_
  refine lv_lmul hx hb dX6_digest_16 ?_
  refine lv_aload_n hx hb dX6_digest_17 rfl (lv_at hl 2 rfl) ?_
  refine lv_iload_n hx hb dX6_digest_18 rfl (lv_at hl 0 rfl) ?_
  have hF := va_free (wc := [(h0, .inr (7, [.ref a, .int (nI 0), .int (nI 8), .int (nI 0), .int (nI 0), .int (nI 0), .int (nI 0)])), (a, .inl (kA 2, 4, .inr (.inr (.inr (.inr (fun _ => none))))))]) hD hS hA [0, 1] rfl
  refine va_calli (va_runV (As := [.int (nI 3)]) (rest := [.long ((((((((9601) * (31)) + (nI ([0, 8, 0, 0, 0, 0, 0].getD 0 0)).toInt64) * (31)) + (nI ([0, 8, 0, 0, 0, 0, 0].getD 1 0)).toInt64) * (31)) + (nI ([0, 8, 0, 0, 0, 0, 0].getD 2 0)).toInt64) * (31))]) ⟨hx, hb, hml, hown, hts⟩ (c_X6_many_c l D kA z h0 a 3 (by decide) _) (cwV 1 hts h_X6_digest_e_0 rfl rfl rfl (by decide +kernel) ⟨Nat.le_of_ble_eq_true rfl, Nat.le_of_ble_eq_true rfl⟩) (fPv hK hP hD hS hG hF [0, 1] (by decide) rfl 0 7 rfl rfl rfl) rfl rfl hl.1 rfl (lv_room (Nat.le_of_ble_eq_true rfl)) dX6_digest_19 ⟨Nat.le_of_ble_eq_true rfl, Nat.le_of_ble_eq_true rfl⟩) hS (fun q _ h => hF q h) hF (fun r_4 w1 t H locs ht hvm hw hB hz1 hk1 hS => ?_)
  obtain ⟨hP, hD⟩ := fJ (wr := []) hP hD [0, 1] [] rfl rfl (by decide) (by decide) hk1 hF ht hB
  try dsimp only at hw
  obtain ⟨rfl, e_4⟩ := hw
  replace e_4 := e_4.symm
  subst e_4
  have hP : va_P D vwCl [(h0, .inr (7, [.ref a, .int (nI 0), .int (nI 8), .int (nI 0), .int (nI 0), .int (nI 0), .int (nI 0)])), (a, .inl (kA 2, 4, .inr (.inr (.inr (.inr (fun _ => none))))))] H := hP
  have hD : va_D A [(h0, .inr (7, [.ref a, .int (nI 0), .int (nI 8), .int (nI 0), .int (nI 0), .int (nI 0), .int (nI 0)])), (a, .inl (kA 2, 4, .inr (.inr (.inr (.inr (fun _ => none))))))] := hD
  refine lv_i2l (v := (nI ([0, 8, 0, 0, 0, 0, 0].getD 3 0)).toInt64) hx hb dX6_digest_22 rfl ?_
  refine lv_ladd hx hb dX6_digest_23 ?_
  refine lv_lstore_n (lv' := [(1, .long (((((((((9601) * (31)) + (nI ([0, 8, 0, 0, 0, 0, 0].getD 0 0)).toInt64) * (31)) + (nI ([0, 8, 0, 0, 0, 0, 0].getD 1 0)).toInt64) * (31)) + (nI ([0, 8, 0, 0, 0, 0, 0].getD 2 0)).toInt64) * (31)) + (nI ([0, 8, 0, 0, 0, 0, 0].getD 3 0)).toInt64)), (3, .int (nI 3)), (0, .ref h0)]) hx hb dX6_digest_24 rfl hl (by decide) rfl (fun ls hl => ?_)
  refine lv_iinc (v := nI 4) (lv' := [(3, .int (nI 4)), (1, .long (((((((((9601) * (31)) + (nI ([0, 8, 0, 0, 0, 0, 0].getD 0 0)).toInt64) * (31)) + (nI ([0, 8, 0, 0, 0, 0, 0].getD 1 0)).toInt64) * (31)) + (nI ([0, 8, 0, 0, 0, 0, 0].getD 2 0)).toInt64) * (31)) + (nI ([0, 8, 0, 0, 0, 0, 0].getD 3 0)).toInt64)), (0, .ref h0)]) hx hb dX6_digest_25 hl (k := 1) rfl (by decide) (by decide) rfl (fun ls hl => ?_)
  refine lv_goto (tgt := 6) hx hb dX6_digest_28 (by decide) ?_
  refine lv_iload_n hx hb dX6_digest_6 rfl (lv_at hl 0 rfl) ?_
  refine lv_bipush (v := nI 6) hx hb dX6_digest_7 (by decide) ?_
  refine lv_icmp_gt (tgt := 31) hx hb dX6_digest_9 (by decide) (fun c9 => absurd c9 (by decide)) (fun _ => ?_)
  refine lv_lload_n hx hb dX6_digest_12 rfl (lv_at hl 1 rfl) ?_
  refine lv_ldc2 hx hb hown (wAt hts 2 (w := .constantLong RX6 247 (31)) rfl) dX6_digest_13 ?_
  refine lv_lmul hx hb dX6_digest_16 ?_
  refine lv_aload_n hx hb dX6_digest_17 rfl (lv_at hl 2 rfl) ?_
  refine lv_iload_n hx hb dX6_digest_18 rfl (lv_at hl 0 rfl) ?_
  have hF := va_free (wc := [(h0, .inr (7, [.ref a, .int (nI 0), .int (nI 8), .int (nI 0), .int (nI 0), .int (nI 0), .int (nI 0)])), (a, .inl (kA 2, 4, .inr (.inr (.inr (.inr (fun _ => none))))))]) hD hS hA [0, 1] rfl
  refine va_calli (va_runV (As := [.int (nI 4)]) (rest := [.long ((((((((((9601) * (31)) + (nI ([0, 8, 0, 0, 0, 0, 0].getD 0 0)).toInt64) * (31)) + (nI ([0, 8, 0, 0, 0, 0, 0].getD 1 0)).toInt64) * (31)) + (nI ([0, 8, 0, 0, 0, 0, 0].getD 2 0)).toInt64) * (31)) + (nI ([0, 8, 0, 0, 0, 0, 0].getD 3 0)).toInt64) * (31))]) ⟨hx, hb, hml, hown, hts⟩ (c_X6_many_c l D kA z h0 a 4 (by decide) _) (cwV 1 hts h_X6_digest_e_0 rfl rfl rfl (by decide +kernel) ⟨Nat.le_of_ble_eq_true rfl, Nat.le_of_ble_eq_true rfl⟩) (fPv hK hP hD hS hG hF [0, 1] (by decide) rfl 0 7 rfl rfl rfl) rfl rfl hl.1 rfl (lv_room (Nat.le_of_ble_eq_true rfl)) dX6_digest_19 ⟨Nat.le_of_ble_eq_true rfl, Nat.le_of_ble_eq_true rfl⟩) hS (fun q _ h => hF q h) hF (fun r_5 w1 t H locs ht hvm hw hB hz1 hk1 hS => ?_)
  obtain ⟨hP, hD⟩ := fJ (wr := []) hP hD [0, 1] [] rfl rfl (by decide) (by decide) hk1 hF ht hB
  try dsimp only at hw
  obtain ⟨rfl, e_5⟩ := hw
  replace e_5 := e_5.symm
  subst e_5
  have hP : va_P D vwCl [(h0, .inr (7, [.ref a, .int (nI 0), .int (nI 8), .int (nI 0), .int (nI 0), .int (nI 0), .int (nI 0)])), (a, .inl (kA 2, 4, .inr (.inr (.inr (.inr (fun _ => none))))))] H := hP
  have hD : va_D A [(h0, .inr (7, [.ref a, .int (nI 0), .int (nI 8), .int (nI 0), .int (nI 0), .int (nI 0), .int (nI 0)])), (a, .inl (kA 2, 4, .inr (.inr (.inr (.inr (fun _ => none))))))] := hD
  refine lv_i2l (v := (nI ([0, 8, 0, 0, 0, 0, 0].getD 4 0)).toInt64) hx hb dX6_digest_22 rfl ?_
  refine lv_ladd hx hb dX6_digest_23 ?_
  refine lv_lstore_n (lv' := [(1, .long (((((((((((9601) * (31)) + (nI ([0, 8, 0, 0, 0, 0, 0].getD 0 0)).toInt64) * (31)) + (nI ([0, 8, 0, 0, 0, 0, 0].getD 1 0)).toInt64) * (31)) + (nI ([0, 8, 0, 0, 0, 0, 0].getD 2 0)).toInt64) * (31)) + (nI ([0, 8, 0, 0, 0, 0, 0].getD 3 0)).toInt64) * (31)) + (nI ([0, 8, 0, 0, 0, 0, 0].getD 4 0)).toInt64)), (3, .int (nI 4)), (0, .ref h0)]) hx hb dX6_digest_24 rfl hl (by decide) rfl (fun ls hl => ?_)
  refine lv_iinc (v := nI 5) (lv' := [(3, .int (nI 5)), (1, .long (((((((((((9601) * (31)) + (nI ([0, 8, 0, 0, 0, 0, 0].getD 0 0)).toInt64) * (31)) + (nI ([0, 8, 0, 0, 0, 0, 0].getD 1 0)).toInt64) * (31)) + (nI ([0, 8, 0, 0, 0, 0, 0].getD 2 0)).toInt64) * (31)) + (nI ([0, 8, 0, 0, 0, 0, 0].getD 3 0)).toInt64) * (31)) + (nI ([0, 8, 0, 0, 0, 0, 0].getD 4 0)).toInt64)), (0, .ref h0)]) hx hb dX6_digest_25 hl (k := 1) rfl (by decide) (by decide) rfl (fun ls hl => ?_)
  refine lv_goto (tgt := 6) hx hb dX6_digest_28 (by decide) ?_
  refine lv_iload_n hx hb dX6_digest_6 rfl (lv_at hl 0 rfl) ?_
  refine lv_bipush (v := nI 6) hx hb dX6_digest_7 (by decide) ?_
  refine lv_icmp_gt (tgt := 31) hx hb dX6_digest_9 (by decide) (fun c9 => absurd c9 (by decide)) (fun _ => ?_)
  refine lv_lload_n hx hb dX6_digest_12 rfl (lv_at hl 1 rfl) ?_
  refine lv_ldc2 hx hb hown (wAt hts 2 (w := .constantLong RX6 247 (31)) rfl) dX6_digest_13 ?_
  refine lv_lmul hx hb dX6_digest_16 ?_
  refine lv_aload_n hx hb dX6_digest_17 rfl (lv_at hl 2 rfl) ?_
  refine lv_iload_n hx hb dX6_digest_18 rfl (lv_at hl 0 rfl) ?_
  have hF := va_free (wc := [(h0, .inr (7, [.ref a, .int (nI 0), .int (nI 8), .int (nI 0), .int (nI 0), .int (nI 0), .int (nI 0)])), (a, .inl (kA 2, 4, .inr (.inr (.inr (.inr (fun _ => none))))))]) hD hS hA [0, 1] rfl
  refine va_calli (va_runV (As := [.int (nI 5)]) (rest := [.long ((((((((((((9601) * (31)) + (nI ([0, 8, 0, 0, 0, 0, 0].getD 0 0)).toInt64) * (31)) + (nI ([0, 8, 0, 0, 0, 0, 0].getD 1 0)).toInt64) * (31)) + (nI ([0, 8, 0, 0, 0, 0, 0].getD 2 0)).toInt64) * (31)) + (nI ([0, 8, 0, 0, 0, 0, 0].getD 3 0)).toInt64) * (31)) + (nI ([0, 8, 0, 0, 0, 0, 0].getD 4 0)).toInt64) * (31))]) ⟨hx, hb, hml, hown, hts⟩ (c_X6_many_c l D kA z h0 a 5 (by decide) _) (cwV 1 hts h_X6_digest_e_0 rfl rfl rfl (by decide +kernel) ⟨Nat.le_of_ble_eq_true rfl, Nat.le_of_ble_eq_true rfl⟩) (fPv hK hP hD hS hG hF [0, 1] (by decide) rfl 0 7 rfl rfl rfl) rfl rfl hl.1 rfl (lv_room (Nat.le_of_ble_eq_true rfl)) dX6_digest_19 ⟨Nat.le_of_ble_eq_true rfl, Nat.le_of_ble_eq_true rfl⟩) hS (fun q _ h => hF q h) hF (fun r_6 w1 t H locs ht hvm hw hB hz1 hk1 hS => ?_)
  obtain ⟨hP, hD⟩ := fJ (wr := []) hP hD [0, 1] [] rfl rfl (by decide) (by decide) hk1 hF ht hB
  try dsimp only at hw
  obtain ⟨rfl, e_6⟩ := hw
  replace e_6 := e_6.symm
  subst e_6
  have hP : va_P D vwCl [(h0, .inr (7, [.ref a, .int (nI 0), .int (nI 8), .int (nI 0), .int (nI 0), .int (nI 0), .int (nI 0)])), (a, .inl (kA 2, 4, .inr (.inr (.inr (.inr (fun _ => none))))))] H := hP
  have hD : va_D A [(h0, .inr (7, [.ref a, .int (nI 0), .int (nI 8), .int (nI 0), .int (nI 0), .int (nI 0), .int (nI 0)])), (a, .inl (kA 2, 4, .inr (.inr (.inr (.inr (fun _ => none))))))] := hD
  refine lv_i2l (v := (nI ([0, 8, 0, 0, 0, 0, 0].getD 5 0)).toInt64) hx hb dX6_digest_22 rfl ?_
  refine lv_ladd hx hb dX6_digest_23 ?_
  refine lv_lstore_n (lv' := [(1, .long (((((((((((((9601) * (31)) + (nI ([0, 8, 0, 0, 0, 0, 0].getD 0 0)).toInt64) * (31)) + (nI ([0, 8, 0, 0, 0, 0, 0].getD 1 0)).toInt64) * (31)) + (nI ([0, 8, 0, 0, 0, 0, 0].getD 2 0)).toInt64) * (31)) + (nI ([0, 8, 0, 0, 0, 0, 0].getD 3 0)).toInt64) * (31)) + (nI ([0, 8, 0, 0, 0, 0, 0].getD 4 0)).toInt64) * (31)) + (nI ([0, 8, 0, 0, 0, 0, 0].getD 5 0)).toInt64)), (3, .int (nI 5)), (0, .ref h0)]) hx hb dX6_digest_24 rfl hl (by decide) rfl (fun ls hl => ?_)
  refine lv_iinc (v := nI 6) (lv' := [(3, .int (nI 6)), (1, .long (((((((((((((9601) * (31)) + (nI ([0, 8, 0, 0, 0, 0, 0].getD 0 0)).toInt64) * (31)) + (nI ([0, 8, 0, 0, 0, 0, 0].getD 1 0)).toInt64) * (31)) + (nI ([0, 8, 0, 0, 0, 0, 0].getD 2 0)).toInt64) * (31)) + (nI ([0, 8, 0, 0, 0, 0, 0].getD 3 0)).toInt64) * (31)) + (nI ([0, 8, 0, 0, 0, 0, 0].getD 4 0)).toInt64) * (31)) + (nI ([0, 8, 0, 0, 0, 0, 0].getD 5 0)).toInt64)), (0, .ref h0)]) hx hb dX6_digest_25 hl (k := 1) rfl (by decide) (by decide) rfl (fun ls hl => ?_)
  refine lv_goto (tgt := 6) hx hb dX6_digest_28 (by decide) ?_
  refine lv_iload_n hx hb dX6_digest_6 rfl (lv_at hl 0 rfl) ?_
  refine lv_bipush (v := nI 6) hx hb dX6_digest_7 (by decide) ?_
  refine lv_icmp_gt (tgt := 31) hx hb dX6_digest_9 (by decide) (fun c9 => absurd c9 (by decide)) (fun _ => ?_)
  refine lv_lload_n hx hb dX6_digest_12 rfl (lv_at hl 1 rfl) ?_
  refine lv_ldc2 hx hb hown (wAt hts 2 (w := .constantLong RX6 247 (31)) rfl) dX6_digest_13 ?_
  refine lv_lmul hx hb dX6_digest_16 ?_
  refine lv_aload_n hx hb dX6_digest_17 rfl (lv_at hl 2 rfl) ?_
  refine lv_iload_n hx hb dX6_digest_18 rfl (lv_at hl 0 rfl) ?_
  have hF := va_free (wc := [(h0, .inr (7, [.ref a, .int (nI 0), .int (nI 8), .int (nI 0), .int (nI 0), .int (nI 0), .int (nI 0)])), (a, .inl (kA 2, 4, .inr (.inr (.inr (.inr (fun _ => none))))))]) hD hS hA [0, 1] rfl
  refine va_calli (va_runV (As := [.int (nI 6)]) (rest := [.long ((((((((((((((9601) * (31)) + (nI ([0, 8, 0, 0, 0, 0, 0].getD 0 0)).toInt64) * (31)) + (nI ([0, 8, 0, 0, 0, 0, 0].getD 1 0)).toInt64) * (31)) + (nI ([0, 8, 0, 0, 0, 0, 0].getD 2 0)).toInt64) * (31)) + (nI ([0, 8, 0, 0, 0, 0, 0].getD 3 0)).toInt64) * (31)) + (nI ([0, 8, 0, 0, 0, 0, 0].getD 4 0)).toInt64) * (31)) + (nI ([0, 8, 0, 0, 0, 0, 0].getD 5 0)).toInt64) * (31))]) ⟨hx, hb, hml, hown, hts⟩ (c_X6_many_c l D kA z h0 a 6 (by decide) _) (cwV 1 hts h_X6_digest_e_0 rfl rfl rfl (by decide +kernel) ⟨Nat.le_of_ble_eq_true rfl, Nat.le_of_ble_eq_true rfl⟩) (fPv hK hP hD hS hG hF [0, 1] (by decide) rfl 0 7 rfl rfl rfl) rfl rfl hl.1 rfl (lv_room (Nat.le_of_ble_eq_true rfl)) dX6_digest_19 ⟨Nat.le_of_ble_eq_true rfl, Nat.le_of_ble_eq_true rfl⟩) hS (fun q _ h => hF q h) hF (fun r_7 w1 t H locs ht hvm hw hB hz1 hk1 hS => ?_)
  obtain ⟨hP, hD⟩ := fJ (wr := []) hP hD [0, 1] [] rfl rfl (by decide) (by decide) hk1 hF ht hB
  try dsimp only at hw
  obtain ⟨rfl, e_7⟩ := hw
  replace e_7 := e_7.symm
  subst e_7
  have hP : va_P D vwCl [(h0, .inr (7, [.ref a, .int (nI 0), .int (nI 8), .int (nI 0), .int (nI 0), .int (nI 0), .int (nI 0)])), (a, .inl (kA 2, 4, .inr (.inr (.inr (.inr (fun _ => none))))))] H := hP
  have hD : va_D A [(h0, .inr (7, [.ref a, .int (nI 0), .int (nI 8), .int (nI 0), .int (nI 0), .int (nI 0), .int (nI 0)])), (a, .inl (kA 2, 4, .inr (.inr (.inr (.inr (fun _ => none))))))] := hD
  refine lv_i2l (v := (nI ([0, 8, 0, 0, 0, 0, 0].getD 6 0)).toInt64) hx hb dX6_digest_22 rfl ?_
  refine lv_ladd hx hb dX6_digest_23 ?_
  refine lv_lstore_n (lv' := [(1, .long (((((((((((((((9601) * (31)) + (nI ([0, 8, 0, 0, 0, 0, 0].getD 0 0)).toInt64) * (31)) + (nI ([0, 8, 0, 0, 0, 0, 0].getD 1 0)).toInt64) * (31)) + (nI ([0, 8, 0, 0, 0, 0, 0].getD 2 0)).toInt64) * (31)) + (nI ([0, 8, 0, 0, 0, 0, 0].getD 3 0)).toInt64) * (31)) + (nI ([0, 8, 0, 0, 0, 0, 0].getD 4 0)).toInt64) * (31)) + (nI ([0, 8, 0, 0, 0, 0, 0].getD 5 0)).toInt64) * (31)) + (nI ([0, 8, 0, 0, 0, 0, 0].getD 6 0)).toInt64)), (3, .int (nI 6)), (0, .ref h0)]) hx hb dX6_digest_24 rfl hl (by decide) rfl (fun ls hl => ?_)
  refine lv_iinc (v := nI 7) (lv' := [(3, .int (nI 7)), (1, .long (((((((((((((((9601) * (31)) + (nI ([0, 8, 0, 0, 0, 0, 0].getD 0 0)).toInt64) * (31)) + (nI ([0, 8, 0, 0, 0, 0, 0].getD 1 0)).toInt64) * (31)) + (nI ([0, 8, 0, 0, 0, 0, 0].getD 2 0)).toInt64) * (31)) + (nI ([0, 8, 0, 0, 0, 0, 0].getD 3 0)).toInt64) * (31)) + (nI ([0, 8, 0, 0, 0, 0, 0].getD 4 0)).toInt64) * (31)) + (nI ([0, 8, 0, 0, 0, 0, 0].getD 5 0)).toInt64) * (31)) + (nI ([0, 8, 0, 0, 0, 0, 0].getD 6 0)).toInt64)), (0, .ref h0)]) hx hb dX6_digest_25 hl (k := 1) rfl (by decide) (by decide) rfl (fun ls hl => ?_)
  refine lv_goto (tgt := 6) hx hb dX6_digest_28 (by decide) ?_
  refine lv_iload_n hx hb dX6_digest_6 rfl (lv_at hl 0 rfl) ?_
  refine lv_bipush (v := nI 6) hx hb dX6_digest_7 (by decide) ?_
  refine lv_icmp_gt (tgt := 31) hx hb dX6_digest_9 (by decide) (fun _ => ?_) (fun c9 => absurd (by decide) c9)
  refine lv_iconst (v := nI 0) hx hb dX6_digest_31 (by decide) ?_
  refine lv_istore_n (lv' := [(3, .int (nI 0)), (1, .long (((((((((((((((9601) * (31)) + (nI ([0, 8, 0, 0, 0, 0, 0].getD 0 0)).toInt64) * (31)) + (nI ([0, 8, 0, 0, 0, 0, 0].getD 1 0)).toInt64) * (31)) + (nI ([0, 8, 0, 0, 0, 0, 0].getD 2 0)).toInt64) * (31)) + (nI ([0, 8, 0, 0, 0, 0, 0].getD 3 0)).toInt64) * (31)) + (nI ([0, 8, 0, 0, 0, 0, 0].getD 4 0)).toInt64) * (31)) + (nI ([0, 8, 0, 0, 0, 0, 0].getD 5 0)).toInt64) * (31)) + (nI ([0, 8, 0, 0, 0, 0, 0].getD 6 0)).toInt64)), (0, .ref h0)]) hx hb dX6_digest_32 rfl hl (by decide) rfl (fun ls hl => ?_)
  refine lv_iload_n hx hb dX6_digest_33 rfl (lv_at hl 0 rfl) ?_
  refine lv_aload_n hx hb dX6_digest_34 rfl (lv_at hl 2 rfl) ?_
  refine va_get (D := D) (ci := 7) (v := .int (nI 0)) (C := RX6) (T := TX6) (N := 7) hx hb hts n_X6_digest_e_X6 hown hK hP 0 rfl rfl 1 (by decide) (wAt hts 7 (w := .fieldLink RX6 15 "FluxBench" "trackCount" "I") rfl) (fun _ h9 => h9) rfl dX6_digest_35 ?_
  refine lv_icmp_ge (tgt := 54) hx hb dX6_digest_38 (by decide) (fun _ => ?_) (fun c38 => absurd (by decide) c38)
  refine lv_lload_n hx hb dX6_digest_54 rfl (lv_at hl 1 rfl) ?_
  exact endL hx hb hr hlocks hK hP hD hS (⟨rfl, by decide +kernel⟩) (Nat.le_of_ble_eq_true rfl) (Nat.le_of_ble_eq_true rfl) dX6_digest_55

