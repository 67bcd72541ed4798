set_option maxHeartbeats 16000000 in
set_option maxRecDepth 100000 in
theorem law_case0 {p : Program} {e : Env} {s : State} {m : MethodId} {below : List Frame} {meth : Method} {c : Code} {l : Launch} {b : Nat} {xs : Nat → Int32} (hfl : l.stackTraces = false) (C0 : lw_At p s m meth c b 6 xs) (hts : ∀ w ∈ wq_law, w.before #[Value.ref b] s = true) {D : va_G} {kA : Nat → ClassId} {z : Nat} (hK : va_K D vwCl (tyL kA) s) (hG : gS z (fun q : Nat => s.heap.size ≤ q) s s.heap) {h0 a h1 q o od : Nat} {H : Heap} {locs : List Loc} {ls : Array Slot} (hP : va_P D vwCl [(h0, .inr (7, [.ref a, .int (nI 0), .int (nI 8), .int (nI 0), .int (nI 0), .int (nI 0), .int (nI 0)])), (a, .inl (kA 2, 4, .inr (.inr (.inr (.inr (fun _ => none)))))), (h1, .inr (11, [.int (nI 0), .ref q, .int (nI 8), .int (nI 0), .int (nI 0), .int (nI 0), .int (nI 0), .long 0])), (q, .inr (1, [.int (nI 0), .ref z, .int (nI 0)])), (o, .inl (kA 4, 1, .inr (.inl (fun _ => 0)))), (od, .inl (kA 5, 1, .inr (.inr (.inr (.inl (fun _ => 0))))))] H) (hD : va_D (fun q : Nat => s.heap.size ≤ q) [(h0, .inr (7, [.ref a, .int (nI 0), .int (nI 8), .int (nI 0), .int (nI 0), .int (nI 0), .int (nI 0)])), (a, .inl (kA 2, 4, .inr (.inr (.inr (.inr (fun _ => none)))))), (h1, .inr (11, [.int (nI 0), .ref q, .int (nI 8), .int (nI 0), .int (nI 0), .int (nI 0), .int (nI 0), .long 0])), (q, .inr (1, [.int (nI 0), .ref z, .int (nI 0)])), (o, .inl (kA 4, 1, .inr (.inl (fun _ => 0)))), (od, .inl (kA 5, 1, .inr (.inr (.inr (.inl (fun _ => 0))))))]) (hS : va_S (fun q : Nat => s.heap.size ≤ q) s.heap H locs) (hl : lv_has ls 9 [(5, .int (nI 0)), (4, .ref od), (3, .ref o), (2, .ref h1), (1, .ref h0), (0, .ref b)]) : W p l e room_1 s m #[Value.ref b] below meth c H locs 6 24 (lw_Z below #[Value.ref b] s) (F0 m 152 ls []) := by
  obtain ⟨hx, hb, hr, hml, hown, hts0, hX, hbl, hlocks, hgv⟩ := id C0
  have hA : ∀ q : Nat, s.heap.size ≤ q → (fun q : Nat => s.heap.size ≤ q) q := fun _ h => h
  have hbA : ¬ (fun q : Nat => s.heap.size ≤ q) b := Nat.not_le.mpr hbl
  generalize hAe : (fun q : Nat => s.heap.size ≤ q) = A at hD hS hA hbA hG
  by_cases hv : ∃ n : Nat, n ≤ 2 ∧ xs 1 = nI n
  ·
    obtain ⟨n9, hn9, e9⟩ := hv
    refine lv_aload_n hx hb dL_law_152 rfl (lv_at hl 4 rfl) ?_
    refine lv_aload_n hx hb dL_law_153 rfl (lv_at hl 5 rfl) ?_
    refine lv_iload hx hb dL_law_154 (lv_at hl 0 rfl) ?_
    refine lv_iconst (v := nI 1) hx hb dL_law_156 (by decide) ?_
    refine lv_iadd hx hb dL_law_157 ?_
    rw [show nI 0 + nI 1 = nI 1 from by decide]
    refine va_sld hx hb hX hbl hbA hS (vp_in_nI (n := 1) (by decide) (by decide)) dL_law_158 ?_
    rw [nI_clamp (n := 1) (by decide)]
    rw [e9]
    refine lv_aload_n hx hb dL_law_159 rfl (lv_at hl 2 rfl) ?_
    have hF := va_free (wc := [(h0, .inr (7, [.ref a, .int (nI 0), .int (nI 8), .int (nI 0), .int (nI 0), .int (nI 0), .int (nI 0)])), (a, .inl (kA 2, 4, .inr (.inr (.inr (.inr (fun _ => none)))))), (o, .inl (kA 4, 1, .inr (.inl (fun _ => 0))))]) hD hS hA [0, 1, 4] rfl
    refine va_calli (vx_runSW (As := [.ref h0, .int (nI n9), .ref o]) (rest := []) ⟨hx, hb, hml, hown, hts⟩ (c_L_track_ok l D kA z hfl h0 a o n9 (fun _ => 0) (by omega) _) (vx_cwSW 3 hts h_law_0 rfl rfl rfl (by decide +kernel) ⟨Nat.le_of_ble_eq_true rfl, Nat.le_of_ble_eq_true rfl⟩) (fPs hK hP hD hS hG hF [0, 1, 4] (by decide) rfl) rfl rfl hl.1 rfl (lv_room (Nat.le_of_ble_eq_true rfl)) dL_law_160 ⟨Nat.le_of_ble_eq_true rfl, Nat.le_of_ble_eq_true rfl⟩) hS (fun q _ h => hF q h) hF (fun r_4 w1 t H locs ht hvm hw hB hz1 hk1 hS => ?_)
    obtain ⟨hP, hD⟩ := fJ (wr := [(h1, .inr (11, [.int (nI 0), .ref q, .int (nI 8), .int (nI 0), .int (nI 0), .int (nI 0), .int (nI 0), .long 0])), (q, .inr (1, [.int (nI 0), .ref z, .int (nI 0)])), (od, .inl (kA 5, 1, .inr (.inr (.inr (.inl (fun _ => 0))))))]) hP hD [0, 1, 4] [2, 3, 5] rfl rfl (by decide) (by decide) hk1 hF ht hB
    try dsimp only at hw
    obtain ⟨tr_1, su_1, vo_1, fp_1, fg_1, t_1, t_2, t_3, s_1, s_2, s_3, s_4, v_1, p_1, p_2, g_1, g_2, r_1, q_1, r_2, q_2, r_3, q_3, rfl, e_1⟩ := hw
    replace e_1 := e_1.symm
    subst e_1
    have hP : va_P D vwCl [(h1, .inr (11, [.int (nI 0), .ref q, .int (nI 8), .int (nI 0), .int (nI 0), .int (nI 0), .int (nI 0), .long 0])), (q, .inr (1, [.int (nI 0), .ref z, .int (nI 0)])), (od, .inl (kA 5, 1, .inr (.inr (.inr (.inl (fun _ => 0)))))), (h0, .inr (7, [.ref a, .int (nI 1), .int (nI 8), .int (nI 0), .int (nI 0), .int (nI 0), .int (nI 0)])), (a, .inl (kA 2, 4, .inr (.inr (.inr (.inr (va_up (fun _ => none) 0 (some tr_1))))))), (tr_1, .inr (5, [.ref su_1, .ref vo_1, .ref fp_1, .ref fg_1, .ref t_1, .ref t_2, .ref t_3, .int (nI n9), .int (nI 0), .int (nI 0), .int (nI 0), .int (nI 0)])), (su_1, .inr (4, [.ref s_1, .ref s_2, .ref s_3, .ref s_4, .int (nI 0), .int (nI 0)])), (s_1, .inl (kA 0, 400, .inl (fun _ => 0))), (s_2, .inl (kA 0, 400, .inl (fun _ => 0))), (s_3, .inl (kA 1, 400, .inl (fun _ => 0))), (s_4, .inl (kA 0, 400, .inl (fun _ => 0))), (vo_1, .inr (3, [.ref v_1, .int (nI 0), .int (nI 1)])), (v_1, .inl (kA 0, 400, .inl (fun _ => 0))), (fp_1, .inr (2, [.int (nI 1), .ref p_1, .ref p_2, .int (nI 0), .int (nI 0), .int (nI 0), .int (nI 0), .int (nI 0), .int (nI 0)])), (p_1, .inl (kA 0, 72, .inl (fun _ => 0))), (p_2, .inl (kA 0, 8, .inl (fun _ => 0))), (fg_1, .inr (2, [.int (nI 2), .ref g_1, .ref g_2, .int (nI 0), .int (nI 0), .int (nI 0), .int (nI 0), .int (nI 0), .int (nI 0)])), (g_1, .inl (kA 0, 72, .inl (fun _ => 0))), (g_2, .inl (kA 0, 8, .inl (fun _ => 0))), (t_1, .inr (6, [.ref r_1, .double 4620693217682128896])), (r_1, .inr (3, [.ref q_1, .int (nI 0), .int (nI 1)])), (q_1, .inl (kA 0, 400, .inl (fun _ => 0))), (t_2, .inr (6, [.ref r_2, .double 4620693217682128896])), (r_2, .inr (3, [.ref q_2, .int (nI 0), .int (nI 1)])), (q_2, .inl (kA 0, 400, .inl (fun _ => 0))), (t_3, .inr (6, [.ref r_3, .double 4620693217682128896])), (r_3, .inr (3, [.ref q_3, .int (nI 0), .int (nI 1)])), (q_3, .inl (kA 0, 400, .inl (fun _ => 0))), (o, .inl (kA 4, 1, .inr (.inl (vp_updL (fun _ => 0) 0 (nI 0).toInt64))))] H := hP
    have hD : va_D A [(h1, .inr (11, [.int (nI 0), .ref q, .int (nI 8), .int (nI 0), .int (nI 0), .int (nI 0), .int (nI 0), .long 0])), (q, .inr (1, [.int (nI 0), .ref z, .int (nI 0)])), (od, .inl (kA 5, 1, .inr (.inr (.inr (.inl (fun _ => 0)))))), (h0, .inr (7, [.ref a, .int (nI 1), .int (nI 8), .int (nI 0), .int (nI 0), .int (nI 0), .int (nI 0)])), (a, .inl (kA 2, 4, .inr (.inr (.inr (.inr (va_up (fun _ => none) 0 (some tr_1))))))), (tr_1, .inr (5, [.ref su_1, .ref vo_1, .ref fp_1, .ref fg_1, .ref t_1, .ref t_2, .ref t_3, .int (nI n9), .int (nI 0), .int (nI 0), .int (nI 0), .int (nI 0)])), (su_1, .inr (4, [.ref s_1, .ref s_2, .ref s_3, .ref s_4, .int (nI 0), .int (nI 0)])), (s_1, .inl (kA 0, 400, .inl (fun _ => 0))), (s_2, .inl (kA 0, 400, .inl (fun _ => 0))), (s_3, .inl (kA 1, 400, .inl (fun _ => 0))), (s_4, .inl (kA 0, 400, .inl (fun _ => 0))), (vo_1, .inr (3, [.ref v_1, .int (nI 0), .int (nI 1)])), (v_1, .inl (kA 0, 400, .inl (fun _ => 0))), (fp_1, .inr (2, [.int (nI 1), .ref p_1, .ref p_2, .int (nI 0), .int (nI 0), .int (nI 0), .int (nI 0), .int (nI 0), .int (nI 0)])), (p_1, .inl (kA 0, 72, .inl (fun _ => 0))), (p_2, .inl (kA 0, 8, .inl (fun _ => 0))), (fg_1, .inr (2, [.int (nI 2), .ref g_1, .ref g_2, .int (nI 0), .int (nI 0), .int (nI 0), .int (nI 0), .int (nI 0), .int (nI 0)])), (g_1, .inl (kA 0, 72, .inl (fun _ => 0))), (g_2, .inl (kA 0, 8, .inl (fun _ => 0))), (t_1, .inr (6, [.ref r_1, .double 4620693217682128896])), (r_1, .inr (3, [.ref q_1, .int (nI 0), .int (nI 1)])), (q_1, .inl (kA 0, 400, .inl (fun _ => 0))), (t_2, .inr (6, [.ref r_2, .double 4620693217682128896])), (r_2, .inr (3, [.ref q_2, .int (nI 0), .int (nI 1)])), (q_2, .inl (kA 0, 400, .inl (fun _ => 0))), (t_3, .inr (6, [.ref r_3, .double 4620693217682128896])), (r_3, .inr (3, [.ref q_3, .int (nI 0), .int (nI 1)])), (q_3, .inl (kA 0, 400, .inl (fun _ => 0))), (o, .inl (kA 4, 1, .inr (.inl (vp_updL (fun _ => 0) 0 (nI 0).toInt64))))] := hD
    refine lv_istore (lv' := [(6, .int (nI 0)), (5, .int (nI 0)), (4, .ref od), (3, .ref o), (2, .ref h1), (1, .ref h0), (0, .ref b)]) hx hb dL_law_163 hl (by decide) rfl (fun ls hl => ?_)
    refine lv_aload_n hx hb dL_law_165 rfl (lv_at hl 4 rfl) ?_
    refine lv_aload_n hx hb dL_law_166 rfl (lv_at hl 6 rfl) ?_
    refine lv_iload hx hb dL_law_167 (lv_at hl 1 rfl) ?_
    refine lv_iconst (v := nI 1) hx hb dL_law_169 (by decide) ?_
    refine lv_iadd hx hb dL_law_170 ?_
    rw [show nI 0 + nI 1 = nI 1 from by decide]
    refine va_sld hx hb hX hbl hbA hS (vp_in_nI (n := 1) (by decide) (by decide)) dL_law_171 ?_
    rw [nI_clamp (n := 1) (by decide)]
    rw [e9]
    have hF := va_free (wc := [(h1, .inr (11, [.int (nI 0), .ref q, .int (nI 8), .int (nI 0), .int (nI 0), .int (nI 0), .int (nI 0), .long 0])), (q, .inr (1, [.int (nI 0), .ref z, .int (nI 0)]))]) hD hS hA [0, 1] rfl
    refine va_calli (va_runV (As := [.int (nI n9)]) (rest := []) ⟨hx, hb, hml, hown, hts⟩ (c_X10_track_ok l D kA z h1 q n9 (nI 0) (by omega) _) (cwV 1 hts h_law_1 rfl rfl rfl (by decide +kernel) ⟨Nat.le_of_ble_eq_true rfl, Nat.le_of_ble_eq_true rfl⟩) (fPv hK hP hD hS hG hF [0, 1] (by decide) rfl 0 11 rfl rfl rfl) rfl rfl hl.1 rfl (lv_room (Nat.le_of_ble_eq_true rfl)) dL_law_172 ⟨Nat.le_of_ble_eq_true rfl, Nat.le_of_ble_eq_true rfl⟩) hS (fun q _ h => hF q h) hF (fun r_5 w1 t H locs ht hvm hw hB hz1 hk1 hS => ?_)
    obtain ⟨hP, hD⟩ := fJ (wr := [(od, .inl (kA 5, 1, .inr (.inr (.inr (.inl (fun _ => 0)))))), (h0, .inr (7, [.ref a, .int (nI 1), .int (nI 8), .int (nI 0), .int (nI 0), .int (nI 0), .int (nI 0)])), (a, .inl (kA 2, 4, .inr (.inr (.inr (.inr (va_up (fun _ => none) 0 (some tr_1))))))), (tr_1, .inr (5, [.ref su_1, .ref vo_1, .ref fp_1, .ref fg_1, .ref t_1, .ref t_2, .ref t_3, .int (nI n9), .int (nI 0), .int (nI 0), .int (nI 0), .int (nI 0)])), (su_1, .inr (4, [.ref s_1, .ref s_2, .ref s_3, .ref s_4, .int (nI 0), .int (nI 0)])), (s_1, .inl (kA 0, 400, .inl (fun _ => 0))), (s_2, .inl (kA 0, 400, .inl (fun _ => 0))), (s_3, .inl (kA 1, 400, .inl (fun _ => 0))), (s_4, .inl (kA 0, 400, .inl (fun _ => 0))), (vo_1, .inr (3, [.ref v_1, .int (nI 0), .int (nI 1)])), (v_1, .inl (kA 0, 400, .inl (fun _ => 0))), (fp_1, .inr (2, [.int (nI 1), .ref p_1, .ref p_2, .int (nI 0), .int (nI 0), .int (nI 0), .int (nI 0), .int (nI 0), .int (nI 0)])), (p_1, .inl (kA 0, 72, .inl (fun _ => 0))), (p_2, .inl (kA 0, 8, .inl (fun _ => 0))), (fg_1, .inr (2, [.int (nI 2), .ref g_1, .ref g_2, .int (nI 0), .int (nI 0), .int (nI 0), .int (nI 0), .int (nI 0), .int (nI 0)])), (g_1, .inl (kA 0, 72, .inl (fun _ => 0))), (g_2, .inl (kA 0, 8, .inl (fun _ => 0))), (t_1, .inr (6, [.ref r_1, .double 4620693217682128896])), (r_1, .inr (3, [.ref q_1, .int (nI 0), .int (nI 1)])), (q_1, .inl (kA 0, 400, .inl (fun _ => 0))), (t_2, .inr (6, [.ref r_2, .double 4620693217682128896])), (r_2, .inr (3, [.ref q_2, .int (nI 0), .int (nI 1)])), (q_2, .inl (kA 0, 400, .inl (fun _ => 0))), (t_3, .inr (6, [.ref r_3, .double 4620693217682128896])), (r_3, .inr (3, [.ref q_3, .int (nI 0), .int (nI 1)])), (q_3, .inl (kA 0, 400, .inl (fun _ => 0))), (o, .inl (kA 4, 1, .inr (.inl (vp_updL (fun _ => 0) 0 (nI 0).toInt64))))]) hP hD [0, 1] [2, 3, 4, 5, 6, 7, 8, 9, 10, 11, 12, 13, 14, 15, 16, 17, 18, 19, 20, 21, 22, 23, 24, 25, 26, 27, 28] rfl rfl (by decide) (by decide) hk1 hF ht hB
    try dsimp only at hw
    obtain ⟨q_4, tk_1, f_1, b_1, w_1, k_1, s_5, dr_1, tu_1, f_2, rfl, e_2⟩ := hw
    replace e_2 := e_2.symm
    subst e_2
    have hP : va_P D vwCl [(od, .inl (kA 5, 1, .inr (.inr (.inr (.inl (fun _ => 0)))))), (h0, .inr (7, [.ref a, .int (nI 1), .int (nI 8), .int (nI 0), .int (nI 0), .int (nI 0), .int (nI 0)])), (a, .inl (kA 2, 4, .inr (.inr (.inr (.inr (va_up (fun _ => none) 0 (some tr_1))))))), (tr_1, .inr (5, [.ref su_1, .ref vo_1, .ref fp_1, .ref fg_1, .ref t_1, .ref t_2, .ref t_3, .int (nI n9), .int (nI 0), .int (nI 0), .int (nI 0), .int (nI 0)])), (su_1, .inr (4, [.ref s_1, .ref s_2, .ref s_3, .ref s_4, .int (nI 0), .int (nI 0)])), (s_1, .inl (kA 0, 400, .inl (fun _ => 0))), (s_2, .inl (kA 0, 400, .inl (fun _ => 0))), (s_3, .inl (kA 1, 400, .inl (fun _ => 0))), (s_4, .inl (kA 0, 400, .inl (fun _ => 0))), (vo_1, .inr (3, [.ref v_1, .int (nI 0), .int (nI 1)])), (v_1, .inl (kA 0, 400, .inl (fun _ => 0))), (fp_1, .inr (2, [.int (nI 1), .ref p_1, .ref p_2, .int (nI 0), .int (nI 0), .int (nI 0), .int (nI 0), .int (nI 0), .int (nI 0)])), (p_1, .inl (kA 0, 72, .inl (fun _ => 0))), (p_2, .inl (kA 0, 8, .inl (fun _ => 0))), (fg_1, .inr (2, [.int (nI 2), .ref g_1, .ref g_2, .int (nI 0), .int (nI 0), .int (nI 0), .int (nI 0), .int (nI 0), .int (nI 0)])), (g_1, .inl (kA 0, 72, .inl (fun _ => 0))), (g_2, .inl (kA 0, 8, .inl (fun _ => 0))), (t_1, .inr (6, [.ref r_1, .double 4620693217682128896])), (r_1, .inr (3, [.ref q_1, .int (nI 0), .int (nI 1)])), (q_1, .inl (kA 0, 400, .inl (fun _ => 0))), (t_2, .inr (6, [.ref r_2, .double 4620693217682128896])), (r_2, .inr (3, [.ref q_2, .int (nI 0), .int (nI 1)])), (q_2, .inl (kA 0, 400, .inl (fun _ => 0))), (t_3, .inr (6, [.ref r_3, .double 4620693217682128896])), (r_3, .inr (3, [.ref q_3, .int (nI 0), .int (nI 1)])), (q_3, .inl (kA 0, 400, .inl (fun _ => 0))), (o, .inl (kA 4, 1, .inr (.inl (vp_updL (fun _ => 0) 0 (nI 0).toInt64)))), (h1, .inr (11, [.int (nI 0), .ref q, .int (nI 8), .int (nI 0), .int (nI 0), .int (nI 0), .int (nI 0), .long 0])), (q, .inr (1, [.int (nI 1), .ref q_4, .int (nI 1)])), (q_4, .inl (kA 3, 10, .inr (.inr (.inr (.inr (va_up (fun _ => none) 0 (some tk_1))))))), (tk_1, .inr (9, [.ref f_1, .int (nI n9), .ref b_1, .ref w_1, .ref k_1, .ref s_5, .ref dr_1, .int (nI 0), .int (nI 0), .ref tu_1, .int (nI 0)])), (f_1, .inl (kA 0, 16, .inl f_2)), (b_1, .inl (kA 0, 400, .inl (fun _ => 0))), (w_1, .inl (kA 0, 400, .inl (fun _ => 0))), (k_1, .inl (kA 1, 400, .inl (fun _ => 0))), (s_5, .inl (kA 0, 400, .inl (fun _ => 0))), (dr_1, .inl (kA 0, 400, .inl (fun _ => 0))), (tu_1, .inr (1, [.int (nI 0), .ref z, .int (nI 0)]))] H := hP
    have hD : va_D A [(od, .inl (kA 5, 1, .inr (.inr (.inr (.inl (fun _ => 0)))))), (h0, .inr (7, [.ref a, .int (nI 1), .int (nI 8), .int (nI 0), .int (nI 0), .int (nI 0), .int (nI 0)])), (a, .inl (kA 2, 4, .inr (.inr (.inr (.inr (va_up (fun _ => none) 0 (some tr_1))))))), (tr_1, .inr (5, [.ref su_1, .ref vo_1, .ref fp_1, .ref fg_1, .ref t_1, .ref t_2, .ref t_3, .int (nI n9), .int (nI 0), .int (nI 0), .int (nI 0), .int (nI 0)])), (su_1, .inr (4, [.ref s_1, .ref s_2, .ref s_3, .ref s_4, .int (nI 0), .int (nI 0)])), (s_1, .inl (kA 0, 400, .inl (fun _ => 0))), (s_2, .inl (kA 0, 400, .inl (fun _ => 0))), (s_3, .inl (kA 1, 400, .inl (fun _ => 0))), (s_4, .inl (kA 0, 400, .inl (fun _ => 0))), (vo_1, .inr (3, [.ref v_1, .int (nI 0), .int (nI 1)])), (v_1, .inl (kA 0, 400, .inl (fun _ => 0))), (fp_1, .inr (2, [.int (nI 1), .ref p_1, .ref p_2, .int (nI 0), .int (nI 0), .int (nI 0), .int (nI 0), .int (nI 0), .int (nI 0)])), (p_1, .inl (kA 0, 72, .inl (fun _ => 0))), (p_2, .inl (kA 0, 8, .inl (fun _ => 0))), (fg_1, .inr (2, [.int (nI 2), .ref g_1, .ref g_2, .int (nI 0), .int (nI 0), .int (nI 0), .int (nI 0), .int (nI 0), .int (nI 0)])), (g_1, .inl (kA 0, 72, .inl (fun _ => 0))), (g_2, .inl (kA 0, 8, .inl (fun _ => 0))), (t_1, .inr (6, [.ref r_1, .double 4620693217682128896])), (r_1, .inr (3, [.ref q_1, .int (nI 0), .int (nI 1)])), (q_1, .inl (kA 0, 400, .inl (fun _ => 0))), (t_2, .inr (6, [.ref r_2, .double 4620693217682128896])), (r_2, .inr (3, [.ref q_2, .int (nI 0), .int (nI 1)])), (q_2, .inl (kA 0, 400, .inl (fun _ => 0))), (t_3, .inr (6, [.ref r_3, .double 4620693217682128896])), (r_3, .inr (3, [.ref q_3, .int (nI 0), .int (nI 1)])), (q_3, .inl (kA 0, 400, .inl (fun _ => 0))), (o, .inl (kA 4, 1, .inr (.inl (vp_updL (fun _ => 0) 0 (nI 0).toInt64)))), (h1, .inr (11, [.int (nI 0), .ref q, .int (nI 8), .int (nI 0), .int (nI 0), .int (nI 0), .int (nI 0), .long 0])), (q, .inr (1, [.int (nI 1), .ref q_4, .int (nI 1)])), (q_4, .inl (kA 3, 10, .inr (.inr (.inr (.inr (va_up (fun _ => none) 0 (some tk_1))))))), (tk_1, .inr (9, [.ref f_1, .int (nI n9), .ref b_1, .ref w_1, .ref k_1, .ref s_5, .ref dr_1, .int (nI 0), .int (nI 0), .ref tu_1, .int (nI 0)])), (f_1, .inl (kA 0, 16, .inl f_2)), (b_1, .inl (kA 0, 400, .inl (fun _ => 0))), (w_1, .inl (kA 0, 400, .inl (fun _ => 0))), (k_1, .inl (kA 1, 400, .inl (fun _ => 0))), (s_5, .inl (kA 0, 400, .inl (fun _ => 0))), (dr_1, .inl (kA 0, 400, .inl (fun _ => 0))), (tu_1, .inr (1, [.int (nI 0), .ref z, .int (nI 0)]))] := hD
    refine lv_istore (lv' := [(7, .int (nI 0)), (6, .int (nI 0)), (5, .int (nI 0)), (4, .ref od), (3, .ref o), (2, .ref h1), (1, .ref h0), (0, .ref b)]) hx hb dL_law_175 hl (by decide) rfl (fun ls hl => ?_)
    refine lv_aload_n hx hb dL_law_177 rfl (lv_at hl 5 rfl) ?_
    have hF := va_free (wc := [(h1, .inr (11, [.int (nI 0), .ref q, .int (nI 8), .int (nI 0), .int (nI 0), .int (nI 0), .int (nI 0), .long 0]))]) hD hS hA [27] rfl
    refine va_calli (va_runV (As := []) (rest := []) ⟨hx, hb, hml, hown, hts⟩ (c_X10_thrown l D kA z h1 q (nI 0) (nI 8) (nI 0) (nI 0) (nI 0) (nI 0) 0  _) (cwV 0 hts h_law_2 rfl rfl rfl (by decide +kernel) ⟨Nat.le_of_ble_eq_true rfl, Nat.le_of_ble_eq_true rfl⟩) (fPv hK hP hD hS hG hF [27] (by decide) rfl 27 11 rfl rfl rfl) rfl rfl hl.1 rfl (lv_room (Nat.le_of_ble_eq_true rfl)) dL_law_178 ⟨Nat.le_of_ble_eq_true rfl, Nat.le_of_ble_eq_true rfl⟩) hS (fun q _ h => hF q h) hF (fun r_6 w1 t H locs ht hvm hw hB hz1 hk1 hS => ?_)
    obtain ⟨hP, hD⟩ := fJ (wr := [(od, .inl (kA 5, 1, .inr (.inr (.inr (.inl (fun _ => 0)))))), (h0, .inr (7, [.ref a, .int (nI 1), .int (nI 8), .int (nI 0), .int (nI 0), .int (nI 0), .int (nI 0)])), (a, .inl (kA 2, 4, .inr (.inr (.inr (.inr (va_up (fun _ => none) 0 (some tr_1))))))), (tr_1, .inr (5, [.ref su_1, .ref vo_1, .ref fp_1, .ref fg_1, .ref t_1, .ref t_2, .ref t_3, .int (nI n9), .int (nI 0), .int (nI 0), .int (nI 0), .int (nI 0)])), (su_1, .inr (4, [.ref s_1, .ref s_2, .ref s_3, .ref s_4, .int (nI 0), .int (nI 0)])), (s_1, .inl (kA 0, 400, .inl (fun _ => 0))), (s_2, .inl (kA 0, 400, .inl (fun _ => 0))), (s_3, .inl (kA 1, 400, .inl (fun _ => 0))), (s_4, .inl (kA 0, 400, .inl (fun _ => 0))), (vo_1, .inr (3, [.ref v_1, .int (nI 0), .int (nI 1)])), (v_1, .inl (kA 0, 400, .inl (fun _ => 0))), (fp_1, .inr (2, [.int (nI 1), .ref p_1, .ref p_2, .int (nI 0), .int (nI 0), .int (nI 0), .int (nI 0), .int (nI 0), .int (nI 0)])), (p_1, .inl (kA 0, 72, .inl (fun _ => 0))), (p_2, .inl (kA 0, 8, .inl (fun _ => 0))), (fg_1, .inr (2, [.int (nI 2), .ref g_1, .ref g_2, .int (nI 0), .int (nI 0), .int (nI 0), .int (nI 0), .int (nI 0), .int (nI 0)])), (g_1, .inl (kA 0, 72, .inl (fun _ => 0))), (g_2, .inl (kA 0, 8, .inl (fun _ => 0))), (t_1, .inr (6, [.ref r_1, .double 4620693217682128896])), (r_1, .inr (3, [.ref q_1, .int (nI 0), .int (nI 1)])), (q_1, .inl (kA 0, 400, .inl (fun _ => 0))), (t_2, .inr (6, [.ref r_2, .double 4620693217682128896])), (r_2, .inr (3, [.ref q_2, .int (nI 0), .int (nI 1)])), (q_2, .inl (kA 0, 400, .inl (fun _ => 0))), (t_3, .inr (6, [.ref r_3, .double 4620693217682128896])), (r_3, .inr (3, [.ref q_3, .int (nI 0), .int (nI 1)])), (q_3, .inl (kA 0, 400, .inl (fun _ => 0))), (o, .inl (kA 4, 1, .inr (.inl (vp_updL (fun _ => 0) 0 (nI 0).toInt64)))), (q, .inr (1, [.int (nI 1), .ref q_4, .int (nI 1)])), (q_4, .inl (kA 3, 10, .inr (.inr (.inr (.inr (va_up (fun _ => none) 0 (some tk_1))))))), (tk_1, .inr (9, [.ref f_1, .int (nI n9), .ref b_1, .ref w_1, .ref k_1, .ref s_5, .ref dr_1, .int (nI 0), .int (nI 0), .ref tu_1, .int (nI 0)])), (f_1, .inl (kA 0, 16, .inl f_2)), (b_1, .inl (kA 0, 400, .inl (fun _ => 0))), (w_1, .inl (kA 0, 400, .inl (fun _ => 0))), (k_1, .inl (kA 1, 400, .inl (fun _ => 0))), (s_5, .inl (kA 0, 400, .inl (fun _ => 0))), (dr_1, .inl (kA 0, 400, .inl (fun _ => 0))), (tu_1, .inr (1, [.int (nI 0), .ref z, .int (nI 0)]))]) hP hD [27] [0, 1, 2, 3, 4, 5, 6, 7, 8, 9, 10, 11, 12, 13, 14, 15, 16, 17, 18, 19, 20, 21, 22, 23, 24, 25, 26, 28, 29, 30, 31, 32, 33, 34, 35, 36, 37] rfl rfl (by decide) (by decide) hk1 hF ht hB
    try dsimp only at hw
    obtain ⟨rfl, e_3⟩ := hw
    replace e_3 := e_3.symm
    subst e_3
    have hP : va_P D vwCl [(od, .inl (kA 5, 1, .inr (.inr (.inr (.inl (fun _ => 0)))))), (h0, .inr (7, [.ref a, .int (nI 1), .int (nI 8), .int (nI 0), .int (nI 0), .int (nI 0), .int (nI 0)])), (a, .inl (kA 2, 4, .inr (.inr (.inr (.inr (va_up (fun _ => none) 0 (some tr_1))))))), (tr_1, .inr (5, [.ref su_1, .ref vo_1, .ref fp_1, .ref fg_1, .ref t_1, .ref t_2, .ref t_3, .int (nI n9), .int (nI 0), .int (nI 0), .int (nI 0), .int (nI 0)])), (su_1, .inr (4, [.ref s_1, .ref s_2, .ref s_3, .ref s_4, .int (nI 0), .int (nI 0)])), (s_1, .inl (kA 0, 400, .inl (fun _ => 0))), (s_2, .inl (kA 0, 400, .inl (fun _ => 0))), (s_3, .inl (kA 1, 400, .inl (fun _ => 0))), (s_4, .inl (kA 0, 400, .inl (fun _ => 0))), (vo_1, .inr (3, [.ref v_1, .int (nI 0), .int (nI 1)])), (v_1, .inl (kA 0, 400, .inl (fun _ => 0))), (fp_1, .inr (2, [.int (nI 1), .ref p_1, .ref p_2, .int (nI 0), .int (nI 0), .int (nI 0), .int (nI 0), .int (nI 0), .int (nI 0)])), (p_1, .inl (kA 0, 72, .inl (fun _ => 0))), (p_2, .inl (kA 0, 8, .inl (fun _ => 0))), (fg_1, .inr (2, [.int (nI 2), .ref g_1, .ref g_2, .int (nI 0), .int (nI 0), .int (nI 0), .int (nI 0), .int (nI 0), .int (nI 0)])), (g_1, .inl (kA 0, 72, .inl (fun _ => 0))), (g_2, .inl (kA 0, 8, .inl (fun _ => 0))), (t_1, .inr (6, [.ref r_1, .double 4620693217682128896])), (r_1, .inr (3, [.ref q_1, .int (nI 0), .int (nI 1)])), (q_1, .inl (kA 0, 400, .inl (fun _ => 0))), (t_2, .inr (6, [.ref r_2, .double 4620693217682128896])), (r_2, .inr (3, [.ref q_2, .int (nI 0), .int (nI 1)])), (q_2, .inl (kA 0, 400, .inl (fun _ => 0))), (t_3, .inr (6, [.ref r_3, .double 4620693217682128896])), (r_3, .inr (3, [.ref q_3, .int (nI 0), .int (nI 1)])), (q_3, .inl (kA 0, 400, .inl (fun _ => 0))), (o, .inl (kA 4, 1, .inr (.inl (vp_updL (fun _ => 0) 0 (nI 0).toInt64)))), (q, .inr (1, [.int (nI 1), .ref q_4, .int (nI 1)])), (q_4, .inl (kA 3, 10, .inr (.inr (.inr (.inr (va_up (fun _ => none) 0 (some tk_1))))))), (tk_1, .inr (9, [.ref f_1, .int (nI n9), .ref b_1, .ref w_1, .ref k_1, .ref s_5, .ref dr_1, .int (nI 0), .int (nI 0), .ref tu_1, .int (nI 0)])), (f_1, .inl (kA 0, 16, .inl f_2)), (b_1, .inl (kA 0, 400, .inl (fun _ => 0))), (w_1, .inl (kA 0, 400, .inl (fun _ => 0))), (k_1, .inl (kA 1, 400, .inl (fun _ => 0))), (s_5, .inl (kA 0, 400, .inl (fun _ => 0))), (dr_1, .inl (kA 0, 400, .inl (fun _ => 0))), (tu_1, .inr (1, [.int (nI 0), .ref z, .int (nI 0)])), (h1, .inr (11, [.int (nI 0), .ref q, .int (nI 8), .int (nI 0), .int (nI 0), .int (nI 0), .int (nI 0), .long 0]))] H := hP
    have hD : va_D A [(od, .inl (kA 5, 1, .inr (.inr (.inr (.inl (fun _ => 0)))))), (h0, .inr (7, [.ref a, .int (nI 1), .int (nI 8), .int (nI 0), .int (nI 0), .int (nI 0), .int (nI 0)])), (a, .inl (kA 2, 4, .inr (.inr (.inr (.inr (va_up (fun _ => none) 0 (some tr_1))))))), (tr_1, .inr (5, [.ref su_1, .ref vo_1, .ref fp_1, .ref fg_1, .ref t_1, .ref t_2, .ref t_3, .int (nI n9), .int (nI 0), .int (nI 0), .int (nI 0), .int (nI 0)])), (su_1, .inr (4, [.ref s_1, .ref s_2, .ref s_3, .ref s_4, .int (nI 0), .int (nI 0)])), (s_1, .inl (kA 0, 400, .inl (fun _ => 0))), (s_2, .inl (kA 0, 400, .inl (fun _ => 0))), (s_3, .inl (kA 1, 400, .inl (fun _ => 0))), (s_4, .inl (kA 0, 400, .inl (fun _ => 0))), (vo_1, .inr (3, [.ref v_1, .int (nI 0), .int (nI 1)])), (v_1, .inl (kA 0, 400, .inl (fun _ => 0))), (fp_1, .inr (2, [.int (nI 1), .ref p_1, .ref p_2, .int (nI 0), .int (nI 0), .int (nI 0), .int (nI 0), .int (nI 0), .int (nI 0)])), (p_1, .inl (kA 0, 72, .inl (fun _ => 0))), (p_2, .inl (kA 0, 8, .inl (fun _ => 0))), (fg_1, .inr (2, [.int (nI 2), .ref g_1, .ref g_2, .int (nI 0), .int (nI 0), .int (nI 0), .int (nI 0), .int (nI 0), .int (nI 0)])), (g_1, .inl (kA 0, 72, .inl (fun _ => 0))), (g_2, .inl (kA 0, 8, .inl (fun _ => 0))), (t_1, .inr (6, [.ref r_1, .double 4620693217682128896])), (r_1, .inr (3, [.ref q_1, .int (nI 0), .int (nI 1)])), (q_1, .inl (kA 0, 400, .inl (fun _ => 0))), (t_2, .inr (6, [.ref r_2, .double 4620693217682128896])), (r_2, .inr (3, [.ref q_2, .int (nI 0), .int (nI 1)])), (q_2, .inl (kA 0, 400, .inl (fun _ => 0))), (t_3, .inr (6, [.ref r_3, .double 4620693217682128896])), (r_3, .inr (3, [.ref q_3, .int (nI 0), .int (nI 1)])), (q_3, .inl (kA 0, 400, .inl (fun _ => 0))), (o, .inl (kA 4, 1, .inr (.inl (vp_updL (fun _ => 0) 0 (nI 0).toInt64)))), (q, .inr (1, [.int (nI 1), .ref q_4, .int (nI 1)])), (q_4, .inl (kA 3, 10, .inr (.inr (.inr (.inr (va_up (fun _ => none) 0 (some tk_1))))))), (tk_1, .inr (9, [.ref f_1, .int (nI n9), .ref b_1, .ref w_1, .ref k_1, .ref s_5, .ref dr_1, .int (nI 0), .int (nI 0), .ref tu_1, .int (nI 0)])), (f_1, .inl (kA 0, 16, .inl f_2)), (b_1, .inl (kA 0, 400, .inl (fun _ => 0))), (w_1, .inl (kA 0, 400, .inl (fun _ => 0))), (k_1, .inl (kA 1, 400, .inl (fun _ => 0))), (s_5, .inl (kA 0, 400, .inl (fun _ => 0))), (dr_1, .inl (kA 0, 400, .inl (fun _ => 0))), (tu_1, .inr (1, [.int (nI 0), .ref z, .int (nI 0)])), (h1, .inr (11, [.int (nI 0), .ref q, .int (nI 8), .int (nI 0), .int (nI 0), .int (nI 0), .int (nI 0), .long 0]))] := hD
    refine lv_iload hx hb dL_law_181 (lv_at hl 1 rfl) ?_
    refine lv_icmp_eq (tgt := 188) hx hb dL_law_183 (by decide) (fun _ => ?_) (fun c183 => absurd (by decide) c183)
    refine lv_iload hx hb dL_law_188 (lv_at hl 1 rfl) ?_
    refine lv_if_ne (tgt := 205) hx hb dL_law_190 (by decide) (fun c190 => absurd (by decide) c190) (fun _ => ?_)
    refine lv_aload_n hx hb dL_law_193 rfl (lv_at hl 4 rfl) ?_
    refine lv_iconst (v := nI 0) hx hb dL_law_194 (by decide) ?_
    refine va_lald hx hb hK hP 26 4 rfl rfl (vp_in_nI (n := 0) (by omega) (by decide)) dL_law_195 ?_
    rw [nI_clamp (n := 0) (by omega)]
    refine lv_iload hx hb dL_law_196 (lv_at hl 0 rfl) ?_
    refine lv_i2l (v := (nI 0).toInt64) hx hb dL_law_198 rfl ?_
    refine W.lcmp hx hb dL_law_199 ?_
    refine lv_if_eq (tgt := 205) hx hb dL_law_200 (by decide) (fun _ => ?_) (fun c200 => absurd (lgs _) c200)
    refine lv_goto (tgt := 1775) hx hb dL_law_205 (by decide) ?_
    subst hAe
    exact law_tail C0 hS (lv_sub hl [2, 7] rfl) (Nat.le_of_ble_eq_true rfl) (Nat.le_of_ble_eq_true rfl)
  ·
    have hv9 : ∀ n : Nat, n ≤ 2 → xs 1 ≠ nI n := fun n g2 g3 => hv ⟨n, g2, g3⟩
    refine lv_aload_n hx hb dL_law_152 rfl (lv_at hl 4 rfl) ?_
    refine lv_aload_n hx hb dL_law_153 rfl (lv_at hl 5 rfl) ?_
    refine lv_iload hx hb dL_law_154 (lv_at hl 0 rfl) ?_
    refine lv_iconst (v := nI 1) hx hb dL_law_156 (by decide) ?_
    refine lv_iadd hx hb dL_law_157 ?_
    rw [show nI 0 + nI 1 = nI 1 from by decide]
    refine va_sld hx hb hX hbl hbA hS (vp_in_nI (n := 1) (by decide) (by decide)) dL_law_158 ?_
    rw [nI_clamp (n := 1) (by decide)]
    refine lv_aload_n hx hb dL_law_159 rfl (lv_at hl 2 rfl) ?_
    have hF := va_free (wc := [(h0, .inr (7, [.ref a, .int (nI 0), .int (nI 8), .int (nI 0), .int (nI 0), .int (nI 0), .int (nI 0)])), (a, .inl (kA 2, 4, .inr (.inr (.inr (.inr (fun _ => none)))))), (o, .inl (kA 4, 1, .inr (.inl (fun _ => 0))))]) hD hS hA [0, 1, 4] rfl
    refine va_calli (vx_runSW (As := [.ref h0, .int (xs 1), .ref o]) (rest := []) ⟨hx, hb, hml, hown, hts⟩ (c_L_track_no l D kA z hfl h0 a o (xs 1) (fun _ => 0) hv9 _) (vx_cwSW 3 hts h_law_3 rfl rfl rfl (by decide +kernel) ⟨Nat.le_of_ble_eq_true rfl, Nat.le_of_ble_eq_true rfl⟩) (fPs hK hP hD hS hG hF [0, 1, 4] (by decide) rfl) rfl rfl hl.1 rfl (lv_room (Nat.le_of_ble_eq_true rfl)) dL_law_160 ⟨Nat.le_of_ble_eq_true rfl, Nat.le_of_ble_eq_true rfl⟩) hS (fun q _ h => hF q h) hF (fun r_7 w1 t H locs ht hvm hw hB hz1 hk1 hS => ?_)
    obtain ⟨hP, hD⟩ := fJ (wr := [(h1, .inr (11, [.int (nI 0), .ref q, .int (nI 8), .int (nI 0), .int (nI 0), .int (nI 0), .int (nI 0), .long 0])), (q, .inr (1, [.int (nI 0), .ref z, .int (nI 0)])), (od, .inl (kA 5, 1, .inr (.inr (.inr (.inl (fun _ => 0))))))]) hP hD [0, 1, 4] [2, 3, 5] rfl rfl (by decide) (by decide) hk1 hF ht hB
    try dsimp only at hw
    obtain ⟨rfl, e_4⟩ := hw
    replace e_4 := e_4.symm
    subst e_4
    have hP : va_P D vwCl [(h1, .inr (11, [.int (nI 0), .ref q, .int (nI 8), .int (nI 0), .int (nI 0), .int (nI 0), .int (nI 0), .long 0])), (q, .inr (1, [.int (nI 0), .ref z, .int (nI 0)])), (od, .inl (kA 5, 1, .inr (.inr (.inr (.inl (fun _ => 0)))))), (h0, .inr (7, [.ref a, .int (nI 0), .int (nI 8), .int (nI 0), .int (nI 0), .int (nI 0), .int (nI 0)])), (a, .inl (kA 2, 4, .inr (.inr (.inr (.inr (fun _ => none)))))), (o, .inl (kA 4, 1, .inr (.inl (fun _ => 0))))] H := hP
    have hD : va_D A [(h1, .inr (11, [.int (nI 0), .ref q, .int (nI 8), .int (nI 0), .int (nI 0), .int (nI 0), .int (nI 0), .long 0])), (q, .inr (1, [.int (nI 0), .ref z, .int (nI 0)])), (od, .inl (kA 5, 1, .inr (.inr (.inr (.inl (fun _ => 0)))))), (h0, .inr (7, [.ref a, .int (nI 0), .int (nI 8), .int (nI 0), .int (nI 0), .int (nI 0), .int (nI 0)])), (a, .inl (kA 2, 4, .inr (.inr (.inr (.inr (fun _ => none)))))), (o, .inl (kA 4, 1, .inr (.inl (fun _ => 0))))] := hD
    refine lv_istore (lv' := [(6, .int (nI 1)), (5, .int (nI 0)), (4, .ref od), (3, .ref o), (2, .ref h1), (1, .ref h0), (0, .ref b)]) hx hb dL_law_163 hl (by decide) rfl (fun ls hl => ?_)
    refine lv_aload_n hx hb dL_law_165 rfl (lv_at hl 4 rfl) ?_
    refine lv_aload_n hx hb dL_law_166 rfl (lv_at hl 6 rfl) ?_
    refine lv_iload hx hb dL_law_167 (lv_at hl 1 rfl) ?_
    refine lv_iconst (v := nI 1) hx hb dL_law_169 (by decide) ?_
    refine lv_iadd hx hb dL_law_170 ?_
    rw [show nI 0 + nI 1 = nI 1 from by decide]
    refine va_sld hx hb hX hbl hbA hS (vp_in_nI (n := 1) (by decide) (by decide)) dL_law_171 ?_
    rw [nI_clamp (n := 1) (by decide)]
    have hF := va_free (wc := [(h1, .inr (11, [.int (nI 0), .ref q, .int (nI 8), .int (nI 0), .int (nI 0), .int (nI 0), .int (nI 0), .long 0])), (q, .inr (1, [.int (nI 0), .ref z, .int (nI 0)]))]) hD hS hA [0, 1] rfl
    refine va_calli (va_runV (As := [.int (xs 1)]) (rest := []) ⟨hx, hb, hml, hown, hts⟩ (c_X10_track_no l D kA z h1 q (nI 0) (xs 1) hv9 _) (cwV 1 hts h_law_4 rfl rfl rfl (by decide +kernel) ⟨Nat.le_of_ble_eq_true rfl, Nat.le_of_ble_eq_true rfl⟩) (fPv hK hP hD hS hG hF [0, 1] (by decide) rfl 0 11 rfl rfl rfl) rfl rfl hl.1 rfl (lv_room (Nat.le_of_ble_eq_true rfl)) dL_law_172 ⟨Nat.le_of_ble_eq_true rfl, Nat.le_of_ble_eq_true rfl⟩) hS (fun q _ h => hF q h) hF (fun r_8 w1 t H locs ht hvm hw hB hz1 hk1 hS => ?_)
    obtain ⟨hP, hD⟩ := fJ (wr := [(od, .inl (kA 5, 1, .inr (.inr (.inr (.inl (fun _ => 0)))))), (h0, .inr (7, [.ref a, .int (nI 0), .int (nI 8), .int (nI 0), .int (nI 0), .int (nI 0), .int (nI 0)])), (a, .inl (kA 2, 4, .inr (.inr (.inr (.inr (fun _ => none)))))), (o, .inl (kA 4, 1, .inr (.inl (fun _ => 0))))]) hP hD [0, 1] [2, 3, 4, 5] rfl rfl (by decide) (by decide) hk1 hF ht hB
    try dsimp only at hw
    subst hw
    have hP : va_P D vwCl [(od, .inl (kA 5, 1, .inr (.inr (.inr (.inl (fun _ => 0)))))), (h0, .inr (7, [.ref a, .int (nI 0), .int (nI 8), .int (nI 0), .int (nI 0), .int (nI 0), .int (nI 0)])), (a, .inl (kA 2, 4, .inr (.inr (.inr (.inr (fun _ => none)))))), (o, .inl (kA 4, 1, .inr (.inl (fun _ => 0)))), (h1, .inr (11, [.int (nI 1), .ref q, .int (nI 8), .int (nI 0), .int (nI 0), .int (nI 0), .int (nI 0), .long 0])), (q, .inr (1, [.int (nI 0), .ref z, .int (nI 0)]))] H := hP
    have hD : va_D A [(od, .inl (kA 5, 1, .inr (.inr (.inr (.inl (fun _ => 0)))))), (h0, .inr (7, [.ref a, .int (nI 0), .int (nI 8), .int (nI 0), .int (nI 0), .int (nI 0), .int (nI 0)])), (a, .inl (kA 2, 4, .inr (.inr (.inr (.inr (fun _ => none)))))), (o, .inl (kA 4, 1, .inr (.inl (fun _ => 0)))), (h1, .inr (11, [.int (nI 1), .ref q, .int (nI 8), .int (nI 0), .int (nI 0), .int (nI 0), .int (nI 0), .long 0])), (q, .inr (1, [.int (nI 0), .ref z, .int (nI 0)]))] := hD
    refine lv_istore (lv' := [(7, .int r_8), (6, .int (nI 1)), (5, .int (nI 0)), (4, .ref od), (3, .ref o), (2, .ref h1), (1, .ref h0), (0, .ref b)]) hx hb dL_law_175 hl (by decide) rfl (fun ls hl => ?_)
    refine lv_aload_n hx hb dL_law_177 rfl (lv_at hl 5 rfl) ?_
    have hF := va_free (wc := [(h1, .inr (11, [.int (nI 1), .ref q, .int (nI 8), .int (nI 0), .int (nI 0), .int (nI 0), .int (nI 0), .long 0]))]) hD hS hA [4] rfl
    refine va_calli (va_runV (As := []) (rest := []) ⟨hx, hb, hml, hown, hts⟩ (c_X10_thrown l D kA z h1 q (nI 1) (nI 8) (nI 0) (nI 0) (nI 0) (nI 0) 0  _) (cwV 0 hts h_law_2 rfl rfl rfl (by decide +kernel) ⟨Nat.le_of_ble_eq_true rfl, Nat.le_of_ble_eq_true rfl⟩) (fPv hK hP hD hS hG hF [4] (by decide) rfl 4 11 rfl rfl rfl) rfl rfl hl.1 rfl (lv_room (Nat.le_of_ble_eq_true rfl)) dL_law_178 ⟨Nat.le_of_ble_eq_true rfl, Nat.le_of_ble_eq_true rfl⟩) hS (fun q _ h => hF q h) hF (fun r_9 w1 t H locs ht hvm hw hB hz1 hk1 hS => ?_)
    obtain ⟨hP, hD⟩ := fJ (wr := [(od, .inl (kA 5, 1, .inr (.inr (.inr (.inl (fun _ => 0)))))), (h0, .inr (7, [.ref a, .int (nI 0), .int (nI 8), .int (nI 0), .int (nI 0), .int (nI 0), .int (nI 0)])), (a, .inl (kA 2, 4, .inr (.inr (.inr (.inr (fun _ => none)))))), (o, .inl (kA 4, 1, .inr (.inl (fun _ => 0)))), (q, .inr (1, [.int (nI 0), .ref z, .int (nI 0)]))]) hP hD [4] [0, 1, 2, 3, 5] rfl rfl (by decide) (by decide) hk1 hF ht hB
    try dsimp only at hw
    obtain ⟨rfl, e_5⟩ := hw
    replace e_5 := e_5.symm
    subst e_5
    have hP : va_P D vwCl [(od, .inl (kA 5, 1, .inr (.inr (.inr (.inl (fun _ => 0)))))), (h0, .inr (7, [.ref a, .int (nI 0), .int (nI 8), .int (nI 0), .int (nI 0), .int (nI 0), .int (nI 0)])), (a, .inl (kA 2, 4, .inr (.inr (.inr (.inr (fun _ => none)))))), (o, .inl (kA 4, 1, .inr (.inl (fun _ => 0)))), (q, .inr (1, [.int (nI 0), .ref z, .int (nI 0)])), (h1, .inr (11, [.int (nI 1), .ref q, .int (nI 8), .int (nI 0), .int (nI 0), .int (nI 0), .int (nI 0), .long 0]))] H := hP
    have hD : va_D A [(od, .inl (kA 5, 1, .inr (.inr (.inr (.inl (fun _ => 0)))))), (h0, .inr (7, [.ref a, .int (nI 0), .int (nI 8), .int (nI 0), .int (nI 0), .int (nI 0), .int (nI 0)])), (a, .inl (kA 2, 4, .inr (.inr (.inr (.inr (fun _ => none)))))), (o, .inl (kA 4, 1, .inr (.inl (fun _ => 0)))), (q, .inr (1, [.int (nI 0), .ref z, .int (nI 0)])), (h1, .inr (11, [.int (nI 1), .ref q, .int (nI 8), .int (nI 0), .int (nI 0), .int (nI 0), .int (nI 0), .long 0]))] := hD
    refine lv_iload hx hb dL_law_181 (lv_at hl 1 rfl) ?_
    refine lv_icmp_eq (tgt := 188) hx hb dL_law_183 (by decide) (fun _ => ?_) (fun c183 => absurd (by decide) c183)
    refine lv_iload hx hb dL_law_188 (lv_at hl 1 rfl) ?_
    refine lv_if_ne (tgt := 205) hx hb dL_law_190 (by decide) (fun _ => ?_) (fun c190 => absurd c190 (by decide))
    refine lv_goto (tgt := 1775) hx hb dL_law_205 (by decide) ?_
    subst hAe
    exact law_tail C0 hS (lv_sub hl [2, 7] rfl) (Nat.le_of_ble_eq_true rfl) (Nat.le_of_ble_eq_true rfl)

set_option maxHeartbeats 16000000 in
set_option maxRecDepth 100000 in
theorem law_case1 {p : Program} {e : Env} {s : State} {m : MethodId} {below : List Frame} {meth : Method} {c : Code} {l : Launch} {b : Nat} {xs : Nat → Int32} (hfl : l.stackTraces = false) (C0 : lw_At p s m meth c b 6 xs) (hts : ∀ w ∈ wq_law, w.before #[Value.ref b] s = true) {D : va_G} {kA : Nat → ClassId} {z : Nat} (hK : va_K D vwCl (tyL kA) s) (hG : gS z (fun q : Nat => s.heap.size ≤ q) s s.heap) {h0 a h1 q o od : Nat} {H : Heap} {locs : List Loc} {ls : Array Slot} (hP : va_P D vwCl [(h0, .inr (7, [.ref a, .int (nI 0), .int (nI 8), .int (nI 0), .int (nI 0), .int (nI 0), .int (nI 0)])), (a, .inl (kA 2, 4, .inr (.inr (.inr (.inr (fun _ => none)))))), (h1, .inr (11, [.int (nI 0), .ref q, .int (nI 8), .int (nI 0), .int (nI 0), .int (nI 0), .int (nI 0), .long 0])), (q, .inr (1, [.int (nI 0), .ref z, .int (nI 0)])), (o, .inl (kA 4, 1, .inr (.inl (fun _ => 0)))), (od, .inl (kA 5, 1, .inr (.inr (.inr (.inl (fun _ => 0))))))] H) (hD : va_D (fun q : Nat => s.heap.size ≤ q) [(h0, .inr (7, [.ref a, .int (nI 0), .int (nI 8), .int (nI 0), .int (nI 0), .int (nI 0), .int (nI 0)])), (a, .inl (kA 2, 4, .inr (.inr (.inr (.inr (fun _ => none)))))), (h1, .inr (11, [.int (nI 0), .ref q, .int (nI 8), .int (nI 0), .int (nI 0), .int (nI 0), .int (nI 0), .long 0])), (q, .inr (1, [.int (nI 0), .ref z, .int (nI 0)])), (o, .inl (kA 4, 1, .inr (.inl (fun _ => 0)))), (od, .inl (kA 5, 1, .inr (.inr (.inr (.inl (fun _ => 0))))))]) (hS : va_S (fun q : Nat => s.heap.size ≤ q) s.heap H locs) (hl : lv_has ls 9 [(5, .int (nI 0)), (4, .ref od), (3, .ref o), (2, .ref h1), (1, .ref h0), (0, .ref b)]) : W p l e room_1 s m #[Value.ref b] below meth c H locs 6 24 (lw_Z below #[Value.ref b] s) (F0 m 208 ls []) := by
  obtain ⟨hx, hb, hr, hml, hown, hts0, hX, hbl, hlocks, hgv⟩ := id C0
  have hA : ∀ q : Nat, s.heap.size ≤ q → (fun q : Nat => s.heap.size ≤ q) q := fun _ h => h
  have hbA : ¬ (fun q : Nat => s.heap.size ≤ q) b := Nat.not_le.mpr hbl
  generalize hAe : (fun q : Nat => s.heap.size ≤ q) = A at hD hS hA hbA hG
  by_cases hv : ∃ n : Nat, 6 ≤ n ∧ n ≤ 11 ∧ xs 1 = nI n
  ·
    obtain ⟨n9, hn8, hn9, e9⟩ := hv
    refine lv_aload_n hx hb dL_law_208 rfl (lv_at hl 4 rfl) ?_
    refine lv_aload_n hx hb dL_law_209 rfl (lv_at hl 5 rfl) ?_
    refine lv_iload hx hb dL_law_210 (lv_at hl 0 rfl) ?_
    refine lv_iconst (v := nI 1) hx hb dL_law_212 (by decide) ?_
    refine lv_iadd hx hb dL_law_213 ?_
    rw [show nI 0 + nI 1 = nI 1 from by decide]
    refine va_sld hx hb hX hbl hbA hS (vp_in_nI (n := 1) (by decide) (by decide)) dL_law_214 ?_
    rw [nI_clamp (n := 1) (by decide)]
    rw [e9]
    refine lv_aload_n hx hb dL_law_215 rfl (lv_at hl 2 rfl) ?_
    have hF := va_free (wc := [(h0, .inr (7, [.ref a, .int (nI 0), .int (nI 8), .int (nI 0), .int (nI 0), .int (nI 0), .int (nI 0)])), (a, .inl (kA 2, 4, .inr (.inr (.inr (.inr (fun _ => none)))))), (o, .inl (kA 4, 1, .inr (.inl (fun _ => 0))))]) hD hS hA [0, 1, 4] rfl
    refine va_calli (vx_runSW (As := [.ref h0, .int (nI n9), .ref o]) (rest := []) ⟨hx, hb, hml, hown, hts⟩ (c_L_speed_ok l D kA z hfl h0 a o n9 (fun _ => 0) (by omega) (by omega) _) (vx_cwSW 3 hts h_law_5 rfl rfl rfl (by decide +kernel) ⟨Nat.le_of_ble_eq_true rfl, Nat.le_of_ble_eq_true rfl⟩) (fPs hK hP hD hS hG hF [0, 1, 4] (by decide) rfl) rfl rfl hl.1 rfl (lv_room (Nat.le_of_ble_eq_true rfl)) dL_law_216 ⟨Nat.le_of_ble_eq_true rfl, Nat.le_of_ble_eq_true rfl⟩) hS (fun q _ h => hF q h) hF (fun r_1 w1 t H locs ht hvm hw hB hz1 hk1 hS => ?_)
    obtain ⟨hP, hD⟩ := fJ (wr := [(h1, .inr (11, [.int (nI 0), .ref q, .int (nI 8), .int (nI 0), .int (nI 0), .int (nI 0), .int (nI 0), .long 0])), (q, .inr (1, [.int (nI 0), .ref z, .int (nI 0)])), (od, .inl (kA 5, 1, .inr (.inr (.inr (.inl (fun _ => 0))))))]) hP hD [0, 1, 4] [2, 3, 5] rfl rfl (by decide) (by decide) hk1 hF ht hB
    try dsimp only at hw
    obtain ⟨rfl, e_1⟩ := hw
    replace e_1 := e_1.symm
    subst e_1
    have hP : va_P D vwCl [(h1, .inr (11, [.int (nI 0), .ref q, .int (nI 8), .int (nI 0), .int (nI 0), .int (nI 0), .int (nI 0), .long 0])), (q, .inr (1, [.int (nI 0), .ref z, .int (nI 0)])), (od, .inl (kA 5, 1, .inr (.inr (.inr (.inl (fun _ => 0)))))), (h0, .inr (7, [.ref a, .int (nI 0), .int (nI n9), .int (nI 0), .int (nI 0), .int (nI 0), .int (nI 0)])), (a, .inl (kA 2, 4, .inr (.inr (.inr (.inr (fun _ => none)))))), (o, .inl (kA 4, 1, .inr (.inl (vp_updL (fun _ => 0) 0 (nI 8).toInt64))))] H := hP
    have hD : va_D A [(h1, .inr (11, [.int (nI 0), .ref q, .int (nI 8), .int (nI 0), .int (nI 0), .int (nI 0), .int (nI 0), .long 0])), (q, .inr (1, [.int (nI 0), .ref z, .int (nI 0)])), (od, .inl (kA 5, 1, .inr (.inr (.inr (.inl (fun _ => 0)))))), (h0, .inr (7, [.ref a, .int (nI 0), .int (nI n9), .int (nI 0), .int (nI 0), .int (nI 0), .int (nI 0)])), (a, .inl (kA 2, 4, .inr (.inr (.inr (.inr (fun _ => none)))))), (o, .inl (kA 4, 1, .inr (.inl (vp_updL (fun _ => 0) 0 (nI 8).toInt64))))] := hD
    refine lv_istore (lv' := [(6, .int (nI 0)), (5, .int (nI 0)), (4, .ref od), (3, .ref o), (2, .ref h1), (1, .ref h0), (0, .ref b)]) hx hb dL_law_219 hl (by decide) rfl (fun ls hl => ?_)
    refine lv_aload_n hx hb dL_law_221 rfl (lv_at hl 4 rfl) ?_
    refine lv_aload_n hx hb dL_law_222 rfl (lv_at hl 6 rfl) ?_
    refine lv_iload hx hb dL_law_223 (lv_at hl 1 rfl) ?_
    refine lv_iconst (v := nI 1) hx hb dL_law_225 (by decide) ?_
    refine lv_iadd hx hb dL_law_226 ?_
    rw [show nI 0 + nI 1 = nI 1 from by decide]
    refine va_sld hx hb hX hbl hbA hS (vp_in_nI (n := 1) (by decide) (by decide)) dL_law_227 ?_
    rw [nI_clamp (n := 1) (by decide)]
    rw [e9]
    have hF := va_free (wc := [(h1, .inr (11, [.int (nI 0), .ref q, .int (nI 8), .int (nI 0), .int (nI 0), .int (nI 0), .int (nI 0), .long 0])), (q, .inr (1, [.int (nI 0), .ref z, .int (nI 0)]))]) hD hS hA [0, 1] rfl
    refine va_calli (va_runV (As := [.int (nI n9)]) (rest := []) ⟨hx, hb, hml, hown, hts⟩ (c_X10_speed_ok l D kA z h1 q n9 (nI 0) (by omega) (by omega) _) (cwV 1 hts h_law_6 rfl rfl rfl (by decide +kernel) ⟨Nat.le_of_ble_eq_true rfl, Nat.le_of_ble_eq_true rfl⟩) (fPv hK hP hD hS hG hF [0, 1] (by decide) rfl 0 11 rfl rfl rfl) rfl rfl hl.1 rfl (lv_room (Nat.le_of_ble_eq_true rfl)) dL_law_228 ⟨Nat.le_of_ble_eq_true rfl, Nat.le_of_ble_eq_true rfl⟩) hS (fun q _ h => hF q h) hF (fun r_2 w1 t H locs ht hvm hw hB hz1 hk1 hS => ?_)
    obtain ⟨hP, hD⟩ := fJ (wr := [(od, .inl (kA 5, 1, .inr (.inr (.inr (.inl (fun _ => 0)))))), (h0, .inr (7, [.ref a, .int (nI 0), .int (nI n9), .int (nI 0), .int (nI 0), .int (nI 0), .int (nI 0)])), (a, .inl (kA 2, 4, .inr (.inr (.inr (.inr (fun _ => none)))))), (o, .inl (kA 4, 1, .inr (.inl (vp_updL (fun _ => 0) 0 (nI 8).toInt64))))]) hP hD [0, 1] [2, 3, 4, 5] rfl rfl (by decide) (by decide) hk1 hF ht hB
    try dsimp only at hw
    obtain ⟨rfl, e_2⟩ := hw
    replace e_2 := e_2.symm
    subst e_2
    have hP : va_P D vwCl [(od, .inl (kA 5, 1, .inr (.inr (.inr (.inl (fun _ => 0)))))), (h0, .inr (7, [.ref a, .int (nI 0), .int (nI n9), .int (nI 0), .int (nI 0), .int (nI 0), .int (nI 0)])), (a, .inl (kA 2, 4, .inr (.inr (.inr (.inr (fun _ => none)))))), (o, .inl (kA 4, 1, .inr (.inl (vp_updL (fun _ => 0) 0 (nI 8).toInt64)))), (h1, .inr (11, [.int (nI 0), .ref q, .int (nI n9), .int (nI 0), .int (nI 0), .int (nI 0), .int (nI 0), .long 0])), (q, .inr (1, [.int (nI 0), .ref z, .int (nI 0)]))] H := hP
    have hD : va_D A [(od, .inl (kA 5, 1, .inr (.inr (.inr (.inl (fun _ => 0)))))), (h0, .inr (7, [.ref a, .int (nI 0), .int (nI n9), .int (nI 0), .int (nI 0), .int (nI 0), .int (nI 0)])), (a, .inl (kA 2, 4, .inr (.inr (.inr (.inr (fun _ => none)))))), (o, .inl (kA 4, 1, .inr (.inl (vp_updL (fun _ => 0) 0 (nI 8).toInt64)))), (h1, .inr (11, [.int (nI 0), .ref q, .int (nI n9), .int (nI 0), .int (nI 0), .int (nI 0), .int (nI 0), .long 0])), (q, .inr (1, [.int (nI 0), .ref z, .int (nI 0)]))] := hD
    refine lv_istore (lv' := [(7, .int (nI 8)), (6, .int (nI 0)), (5, .int (nI 0)), (4, .ref od), (3, .ref o), (2, .ref h1), (1, .ref h0), (0, .ref b)]) hx hb dL_law_231 hl (by decide) rfl (fun ls hl => ?_)
    refine lv_aload_n hx hb dL_law_233 rfl (lv_at hl 5 rfl) ?_
    have hF := va_free (wc := [(h1, .inr (11, [.int (nI 0), .ref q, .int (nI n9), .int (nI 0), .int (nI 0), .int (nI 0), .int (nI 0), .long 0]))]) hD hS hA [4] rfl
    refine va_calli (va_runV (As := []) (rest := []) ⟨hx, hb, hml, hown, hts⟩ (c_X10_thrown l D kA z h1 q (nI 0) (nI n9) (nI 0) (nI 0) (nI 0) (nI 0) 0  _) (cwV 0 hts h_law_2 rfl rfl rfl (by decide +kernel) ⟨Nat.le_of_ble_eq_true rfl, Nat.le_of_ble_eq_true rfl⟩) (fPv hK hP hD hS hG hF [4] (by decide) rfl 4 11 rfl rfl rfl) rfl rfl hl.1 rfl (lv_room (Nat.le_of_ble_eq_true rfl)) dL_law_234 ⟨Nat.le_of_ble_eq_true rfl, Nat.le_of_ble_eq_true rfl⟩) hS (fun q _ h => hF q h) hF (fun r_3 w1 t H locs ht hvm hw hB hz1 hk1 hS => ?_)
    obtain ⟨hP, hD⟩ := fJ (wr := [(od, .inl (kA 5, 1, .inr (.inr (.inr (.inl (fun _ => 0)))))), (h0, .inr (7, [.ref a, .int (nI 0), .int (nI n9), .int (nI 0), .int (nI 0), .int (nI 0), .int (nI 0)])), (a, .inl (kA 2, 4, .inr (.inr (.inr (.inr (fun _ => none)))))), (o, .inl (kA 4, 1, .inr (.inl (vp_updL (fun _ => 0) 0 (nI 8).toInt64)))), (q, .inr (1, [.int (nI 0), .ref z, .int (nI 0)]))]) hP hD [4] [0, 1, 2, 3, 5] rfl rfl (by decide) (by decide) hk1 hF ht hB
    try dsimp only at hw
    obtain ⟨rfl, e_3⟩ := hw
    replace e_3 := e_3.symm
    subst e_3
    have hP : va_P D vwCl [(od, .inl (kA 5, 1, .inr (.inr (.inr (.inl (fun _ => 0)))))), (h0, .inr (7, [.ref a, .int (nI 0), .int (nI n9), .int (nI 0), .int (nI 0), .int (nI 0), .int (nI 0)])), (a, .inl (kA 2, 4, .inr (.inr (.inr (.inr (fun _ => none)))))), (o, .inl (kA 4, 1, .inr (.inl (vp_updL (fun _ => 0) 0 (nI 8).toInt64)))), (q, .inr (1, [.int (nI 0), .ref z, .int (nI 0)])), (h1, .inr (11, [.int (nI 0), .ref q, .int (nI n9), .int (nI 0), .int (nI 0), .int (nI 0), .int (nI 0), .long 0]))] H := hP
    have hD : va_D A [(od, .inl (kA 5, 1, .inr (.inr (.inr (.inl (fun _ => 0)))))), (h0, .inr (7, [.ref a, .int (nI 0), .int (nI n9), .int (nI 0), .int (nI 0), .int (nI 0), .int (nI 0)])), (a, .inl (kA 2, 4, .inr (.inr (.inr (.inr (fun _ => none)))))), (o, .inl (kA 4, 1, .inr (.inl (vp_updL (fun _ => 0) 0 (nI 8).toInt64)))), (q, .inr (1, [.int (nI 0), .ref z, .int (nI 0)])), (h1, .inr (11, [.int (nI 0), .ref q, .int (nI n9), .int (nI 0), .int (nI 0), .int (nI 0), .int (nI 0), .long 0]))] := hD
    refine lv_iload hx hb dL_law_237 (lv_at hl 1 rfl) ?_
    refine lv_icmp_eq (tgt := 244) hx hb dL_law_239 (by decide) (fun _ => ?_) (fun c239 => absurd (by decide) c239)
    refine lv_iload hx hb dL_law_244 (lv_at hl 1 rfl) ?_
    refine lv_if_ne (tgt := 261) hx hb dL_law_246 (by decide) (fun c246 => absurd (by decide) c246) (fun _ => ?_)
    refine lv_aload_n hx hb dL_law_249 rfl (lv_at hl 4 rfl) ?_
    refine lv_iconst (v := nI 0) hx hb dL_law_250 (by decide) ?_
    refine va_lald hx hb hK hP 3 4 rfl rfl (vp_in_nI (n := 0) (by omega) (by decide)) dL_law_251 ?_
    rw [nI_clamp (n := 0) (by omega)]
    refine lv_iload hx hb dL_law_252 (lv_at hl 0 rfl) ?_
    refine lv_i2l (v := (nI 8).toInt64) hx hb dL_law_254 rfl ?_
    refine W.lcmp hx hb dL_law_255 ?_
    refine lv_if_eq (tgt := 261) hx hb dL_law_256 (by decide) (fun _ => ?_) (fun c256 => absurd (lgs _) c256)
    refine lv_goto (tgt := 1775) hx hb dL_law_261 (by decide) ?_
    subst hAe
    exact law_tail C0 hS (lv_sub hl [2, 7] rfl) (Nat.le_of_ble_eq_true rfl) (Nat.le_of_ble_eq_true rfl)
  ·
    have hv9 : ∀ n : Nat, 6 ≤ n → n ≤ 11 → xs 1 ≠ nI n := fun n g1 g2 g3 => hv ⟨n, g1, g2, g3⟩
    refine lv_aload_n hx hb dL_law_208 rfl (lv_at hl 4 rfl) ?_
    refine lv_aload_n hx hb dL_law_209 rfl (lv_at hl 5 rfl) ?_
    refine lv_iload hx hb dL_law_210 (lv_at hl 0 rfl) ?_
    refine lv_iconst (v := nI 1) hx hb dL_law_212 (by decide) ?_
    refine lv_iadd hx hb dL_law_213 ?_
    rw [show nI 0 + nI 1 = nI 1 from by decide]
    refine va_sld hx hb hX hbl hbA hS (vp_in_nI (n := 1) (by decide) (by decide)) dL_law_214 ?_
    rw [nI_clamp (n := 1) (by decide)]
    refine lv_aload_n hx hb dL_law_215 rfl (lv_at hl 2 rfl) ?_
    have hF := va_free (wc := [(h0, .inr (7, [.ref a, .int (nI 0), .int (nI 8), .int (nI 0), .int (nI 0), .int (nI 0), .int (nI 0)])), (a, .inl (kA 2, 4, .inr (.inr (.inr (.inr (fun _ => none)))))), (o, .inl (kA 4, 1, .inr (.inl (fun _ => 0))))]) hD hS hA [0, 1, 4] rfl
    refine va_calli (vx_runSW (As := [.ref h0, .int (xs 1), .ref o]) (rest := []) ⟨hx, hb, hml, hown, hts⟩ (c_L_speed_no l D kA z hfl h0 a o (xs 1) (fun _ => 0) hv9 _) (vx_cwSW 3 hts h_law_7 rfl rfl rfl (by decide +kernel) ⟨Nat.le_of_ble_eq_true rfl, Nat.le_of_ble_eq_true rfl⟩) (fPs hK hP hD hS hG hF [0, 1, 4] (by decide) rfl) rfl rfl hl.1 rfl (lv_room (Nat.le_of_ble_eq_true rfl)) dL_law_216 ⟨Nat.le_of_ble_eq_true rfl, Nat.le_of_ble_eq_true rfl⟩) hS (fun q _ h => hF q h) hF (fun r_4 w1 t H locs ht hvm hw hB hz1 hk1 hS => ?_)
    obtain ⟨hP, hD⟩ := fJ (wr := [(h1, .inr (11, [.int (nI 0), .ref q, .int (nI 8), .int (nI 0), .int (nI 0), .int (nI 0), .int (nI 0), .long 0])), (q, .inr (1, [.int (nI 0), .ref z, .int (nI 0)])), (od, .inl (kA 5, 1, .inr (.inr (.inr (.inl (fun _ => 0))))))]) hP hD [0, 1, 4] [2, 3, 5] rfl rfl (by decide) (by decide) hk1 hF ht hB
    try dsimp only at hw
    obtain ⟨rfl, e_4⟩ := hw
    replace e_4 := e_4.symm
    subst e_4
    have hP : va_P D vwCl [(h1, .inr (11, [.int (nI 0), .ref q, .int (nI 8), .int (nI 0), .int (nI 0), .int (nI 0), .int (nI 0), .long 0])), (q, .inr (1, [.int (nI 0), .ref z, .int (nI 0)])), (od, .inl (kA 5, 1, .inr (.inr (.inr (.inl (fun _ => 0)))))), (h0, .inr (7, [.ref a, .int (nI 0), .int (nI 8), .int (nI 0), .int (nI 0), .int (nI 0), .int (nI 0)])), (a, .inl (kA 2, 4, .inr (.inr (.inr (.inr (fun _ => none)))))), (o, .inl (kA 4, 1, .inr (.inl (fun _ => 0))))] H := hP
    have hD : va_D A [(h1, .inr (11, [.int (nI 0), .ref q, .int (nI 8), .int (nI 0), .int (nI 0), .int (nI 0), .int (nI 0), .long 0])), (q, .inr (1, [.int (nI 0), .ref z, .int (nI 0)])), (od, .inl (kA 5, 1, .inr (.inr (.inr (.inl (fun _ => 0)))))), (h0, .inr (7, [.ref a, .int (nI 0), .int (nI 8), .int (nI 0), .int (nI 0), .int (nI 0), .int (nI 0)])), (a, .inl (kA 2, 4, .inr (.inr (.inr (.inr (fun _ => none)))))), (o, .inl (kA 4, 1, .inr (.inl (fun _ => 0))))] := hD
    refine lv_istore (lv' := [(6, .int (nI 1)), (5, .int (nI 0)), (4, .ref od), (3, .ref o), (2, .ref h1), (1, .ref h0), (0, .ref b)]) hx hb dL_law_219 hl (by decide) rfl (fun ls hl => ?_)
    refine lv_aload_n hx hb dL_law_221 rfl (lv_at hl 4 rfl) ?_
    refine lv_aload_n hx hb dL_law_222 rfl (lv_at hl 6 rfl) ?_
    refine lv_iload hx hb dL_law_223 (lv_at hl 1 rfl) ?_
    refine lv_iconst (v := nI 1) hx hb dL_law_225 (by decide) ?_
    refine lv_iadd hx hb dL_law_226 ?_
    rw [show nI 0 + nI 1 = nI 1 from by decide]
    refine va_sld hx hb hX hbl hbA hS (vp_in_nI (n := 1) (by decide) (by decide)) dL_law_227 ?_
    rw [nI_clamp (n := 1) (by decide)]
    have hF := va_free (wc := [(h1, .inr (11, [.int (nI 0), .ref q, .int (nI 8), .int (nI 0), .int (nI 0), .int (nI 0), .int (nI 0), .long 0])), (q, .inr (1, [.int (nI 0), .ref z, .int (nI 0)]))]) hD hS hA [0, 1] rfl
    refine va_calli (va_runV (As := [.int (xs 1)]) (rest := []) ⟨hx, hb, hml, hown, hts⟩ (c_X10_speed_no l D kA z h1 q (nI 0) (xs 1) hv9 _) (cwV 1 hts h_law_8 rfl rfl rfl (by decide +kernel) ⟨Nat.le_of_ble_eq_true rfl, Nat.le_of_ble_eq_true rfl⟩) (fPv hK hP hD hS hG hF [0, 1] (by decide) rfl 0 11 rfl rfl rfl) rfl rfl hl.1 rfl (lv_room (Nat.le_of_ble_eq_true rfl)) dL_law_228 ⟨Nat.le_of_ble_eq_true rfl, Nat.le_of_ble_eq_true rfl⟩) hS (fun q _ h => hF q h) hF (fun r_5 w1 t H locs ht hvm hw hB hz1 hk1 hS => ?_)
    obtain ⟨hP, hD⟩ := fJ (wr := [(od, .inl (kA 5, 1, .inr (.inr (.inr (.inl (fun _ => 0)))))), (h0, .inr (7, [.ref a, .int (nI 0), .int (nI 8), .int (nI 0), .int (nI 0), .int (nI 0), .int (nI 0)])), (a, .inl (kA 2, 4, .inr (.inr (.inr (.inr (fun _ => none)))))), (o, .inl (kA 4, 1, .inr (.inl (fun _ => 0))))]) hP hD [0, 1] [2, 3, 4, 5] rfl rfl (by decide) (by decide) hk1 hF ht hB
    try dsimp only at hw
    subst hw
    have hP : va_P D vwCl [(od, .inl (kA 5, 1, .inr (.inr (.inr (.inl (fun _ => 0)))))), (h0, .inr (7, [.ref a, .int (nI 0), .int (nI 8), .int (nI 0), .int (nI 0), .int (nI 0), .int (nI 0)])), (a, .inl (kA 2, 4, .inr (.inr (.inr (.inr (fun _ => none)))))), (o, .inl (kA 4, 1, .inr (.inl (fun _ => 0)))), (h1, .inr (11, [.int (nI 1), .ref q, .int (nI 8), .int (nI 0), .int (nI 0), .int (nI 0), .int (nI 0), .long 0])), (q, .inr (1, [.int (nI 0), .ref z, .int (nI 0)]))] H := hP
    have hD : va_D A [(od, .inl (kA 5, 1, .inr (.inr (.inr (.inl (fun _ => 0)))))), (h0, .inr (7, [.ref a, .int (nI 0), .int (nI 8), .int (nI 0), .int (nI 0), .int (nI 0), .int (nI 0)])), (a, .inl (kA 2, 4, .inr (.inr (.inr (.inr (fun _ => none)))))), (o, .inl (kA 4, 1, .inr (.inl (fun _ => 0)))), (h1, .inr (11, [.int (nI 1), .ref q, .int (nI 8), .int (nI 0), .int (nI 0), .int (nI 0), .int (nI 0), .long 0])), (q, .inr (1, [.int (nI 0), .ref z, .int (nI 0)]))] := hD
    refine lv_istore (lv' := [(7, .int r_5), (6, .int (nI 1)), (5, .int (nI 0)), (4, .ref od), (3, .ref o), (2, .ref h1), (1, .ref h0), (0, .ref b)]) hx hb dL_law_231 hl (by decide) rfl (fun ls hl => ?_)
    refine lv_aload_n hx hb dL_law_233 rfl (lv_at hl 5 rfl) ?_
    have hF := va_free (wc := [(h1, .inr (11, [.int (nI 1), .ref q, .int (nI 8), .int (nI 0), .int (nI 0), .int (nI 0), .int (nI 0), .long 0]))]) hD hS hA [4] rfl
    refine va_calli (va_runV (As := []) (rest := []) ⟨hx, hb, hml, hown, hts⟩ (c_X10_thrown l D kA z h1 q (nI 1) (nI 8) (nI 0) (nI 0) (nI 0) (nI 0) 0  _) (cwV 0 hts h_law_2 rfl rfl rfl (by decide +kernel) ⟨Nat.le_of_ble_eq_true rfl, Nat.le_of_ble_eq_true rfl⟩) (fPv hK hP hD hS hG hF [4] (by decide) rfl 4 11 rfl rfl rfl) rfl rfl hl.1 rfl (lv_room (Nat.le_of_ble_eq_true rfl)) dL_law_234 ⟨Nat.le_of_ble_eq_true rfl, Nat.le_of_ble_eq_true rfl⟩) hS (fun q _ h => hF q h) hF (fun r_6 w1 t H locs ht hvm hw hB hz1 hk1 hS => ?_)
    obtain ⟨hP, hD⟩ := fJ (wr := [(od, .inl (kA 5, 1, .inr (.inr (.inr (.inl (fun _ => 0)))))), (h0, .inr (7, [.ref a, .int (nI 0), .int (nI 8), .int (nI 0), .int (nI 0), .int (nI 0), .int (nI 0)])), (a, .inl (kA 2, 4, .inr (.inr (.inr (.inr (fun _ => none)))))), (o, .inl (kA 4, 1, .inr (.inl (fun _ => 0)))), (q, .inr (1, [.int (nI 0), .ref z, .int (nI 0)]))]) hP hD [4] [0, 1, 2, 3, 5] rfl rfl (by decide) (by decide) hk1 hF ht hB
    try dsimp only at hw
    obtain ⟨rfl, e_5⟩ := hw
    replace e_5 := e_5.symm
    subst e_5
    have hP : va_P D vwCl [(od, .inl (kA 5, 1, .inr (.inr (.inr (.inl (fun _ => 0)))))), (h0, .inr (7, [.ref a, .int (nI 0), .int (nI 8), .int (nI 0), .int (nI 0), .int (nI 0), .int (nI 0)])), (a, .inl (kA 2, 4, .inr (.inr (.inr (.inr (fun _ => none)))))), (o, .inl (kA 4, 1, .inr (.inl (fun _ => 0)))), (q, .inr (1, [.int (nI 0), .ref z, .int (nI 0)])), (h1, .inr (11, [.int (nI 1), .ref q, .int (nI 8), .int (nI 0), .int (nI 0), .int (nI 0), .int (nI 0), .long 0]))] H := hP
    have hD : va_D A [(od, .inl (kA 5, 1, .inr (.inr (.inr (.inl (fun _ => 0)))))), (h0, .inr (7, [.ref a, .int (nI 0), .int (nI 8), .int (nI 0), .int (nI 0), .int (nI 0), .int (nI 0)])), (a, .inl (kA 2, 4, .inr (.inr (.inr (.inr (fun _ => none)))))), (o, .inl (kA 4, 1, .inr (.inl (fun _ => 0)))), (q, .inr (1, [.int (nI 0), .ref z, .int (nI 0)])), (h1, .inr (11, [.int (nI 1), .ref q, .int (nI 8), .int (nI 0), .int (nI 0), .int (nI 0), .int (nI 0), .long 0]))] := hD
    refine lv_iload hx hb dL_law_237 (lv_at hl 1 rfl) ?_
    refine lv_icmp_eq (tgt := 244) hx hb dL_law_239 (by decide) (fun _ => ?_) (fun c239 => absurd (by decide) c239)
    refine lv_iload hx hb dL_law_244 (lv_at hl 1 rfl) ?_
    refine lv_if_ne (tgt := 261) hx hb dL_law_246 (by decide) (fun _ => ?_) (fun c246 => absurd c246 (by decide))
    refine lv_goto (tgt := 1775) hx hb dL_law_261 (by decide) ?_
    subst hAe
    exact law_tail C0 hS (lv_sub hl [2, 7] rfl) (Nat.le_of_ble_eq_true rfl) (Nat.le_of_ble_eq_true rfl)

set_option maxHeartbeats 16000000 in
set_option maxRecDepth 100000 in
theorem law_case2 {p : Program} {e : Env} {s : State} {m : MethodId} {below : List Frame} {meth : Method} {c : Code} {l : Launch} {b : Nat} {xs : Nat → Int32} (hfl : l.stackTraces = false) (C0 : lw_At p s m meth c b 6 xs) (hts : ∀ w ∈ wq_law, w.before #[Value.ref b] s = true) {D : va_G} {kA : Nat → ClassId} {z : Nat} (hK : va_K D vwCl (tyL kA) s) (hG : gS z (fun q : Nat => s.heap.size ≤ q) s s.heap) {h0 a h1 q o od : Nat} {H : Heap} {locs : List Loc} {ls : Array Slot} (hP : va_P D vwCl [(h0, .inr (7, [.ref a, .int (nI 0), .int (nI 8), .int (nI 0), .int (nI 0), .int (nI 0), .int (nI 0)])), (a, .inl (kA 2, 4, .inr (.inr (.inr (.inr (fun _ => none)))))), (h1, .inr (11, [.int (nI 0), .ref q, .int (nI 8), .int (nI 0), .int (nI 0), .int (nI 0), .int (nI 0), .long 0])), (q, .inr (1, [.int (nI 0), .ref z, .int (nI 0)])), (o, .inl (kA 4, 1, .inr (.inl (fun _ => 0)))), (od, .inl (kA 5, 1, .inr (.inr (.inr (.inl (fun _ => 0))))))] H) (hD : va_D (fun q : Nat => s.heap.size ≤ q) [(h0, .inr (7, [.ref a, .int (nI 0), .int (nI 8), .int (nI 0), .int (nI 0), .int (nI 0), .int (nI 0)])), (a, .inl (kA 2, 4, .inr (.inr (.inr (.inr (fun _ => none)))))), (h1, .inr (11, [.int (nI 0), .ref q, .int (nI 8), .int (nI 0), .int (nI 0), .int (nI 0), .int (nI 0), .long 0])), (q, .inr (1, [.int (nI 0), .ref z, .int (nI 0)])), (o, .inl (kA 4, 1, .inr (.inl (fun _ => 0)))), (od, .inl (kA 5, 1, .inr (.inr (.inr (.inl (fun _ => 0))))))]) (hS : va_S (fun q : Nat => s.heap.size ≤ q) s.heap H locs) (hl : lv_has ls 9 [(5, .int (nI 0)), (4, .ref od), (3, .ref o), (2, .ref h1), (1, .ref h0), (0, .ref b)]) : W p l e room_1 s m #[Value.ref b] below meth c H locs 6 24 (lw_Z below #[Value.ref b] s) (F0 m 264 ls []) := by
  obtain ⟨hx, hb, hr, hml, hown, hts0, hX, hbl, hlocks, hgv⟩ := id C0
  have hA : ∀ q : Nat, s.heap.size ≤ q → (fun q : Nat => s.heap.size ≤ q) q := fun _ h => h
  have hbA : ¬ (fun q : Nat => s.heap.size ≤ q) b := Nat.not_le.mpr hbl
  generalize hAe : (fun q : Nat => s.heap.size ≤ q) = A at hD hS hA hbA hG
  refine lv_aload_n hx hb dL_law_264 rfl (lv_at hl 4 rfl) ?_
  refine lv_aload_n hx hb dL_law_265 rfl (lv_at hl 5 rfl) ?_
  refine lv_iload hx hb dL_law_266 (lv_at hl 0 rfl) ?_
  refine lv_iconst (v := nI 1) hx hb dL_law_268 (by decide) ?_
  refine lv_iadd hx hb dL_law_269 ?_
  rw [show nI 0 + nI 1 = nI 1 from by decide]
  refine va_sld hx hb hX hbl hbA hS (vp_in_nI (n := 1) (by decide) (by decide)) dL_law_270 ?_
  rw [nI_clamp (n := 1) (by decide)]
  refine lv_aload_n hx hb dL_law_271 rfl (lv_at hl 5 rfl) ?_
  refine lv_iload hx hb dL_law_272 (lv_at hl 0 rfl) ?_
  refine lv_iconst (v := nI 2) hx hb dL_law_274 (by decide) ?_
  refine lv_iadd hx hb dL_law_275 ?_
  rw [show nI 0 + nI 2 = nI 2 from by decide]
  refine va_sld hx hb hX hbl hbA hS (vp_in_nI (n := 2) (by decide) (by decide)) dL_law_276 ?_
  rw [nI_clamp (n := 2) (by decide)]
  refine lv_aload_n hx hb dL_law_277 rfl (lv_at hl 2 rfl) ?_
  have hF := va_free (wc := [(h0, .inr (7, [.ref a, .int (nI 0), .int (nI 8), .int (nI 0), .int (nI 0), .int (nI 0), .int (nI 0)])), (a, .inl (kA 2, 4, .inr (.inr (.inr (.inr (fun _ => none)))))), (o, .inl (kA 4, 1, .inr (.inl (fun _ => 0))))]) hD hS hA [0, 1, 4] rfl
  refine va_calli (vx_runSW (As := [.ref h0, .int (xs 1), .int (xs 2), .ref o]) (rest := []) ⟨hx, hb, hml, hown, hts⟩ (c_L_write_e l D kA z hfl h0 a o (xs 1) (xs 2) (fun _ => 0)  _) (vx_cwSW 4 hts h_law_9 rfl rfl rfl (by decide +kernel) ⟨Nat.le_of_ble_eq_true rfl, Nat.le_of_ble_eq_true rfl⟩) (fPs hK hP hD hS hG hF [0, 1, 4] (by decide) rfl) rfl rfl hl.1 rfl (lv_room (Nat.le_of_ble_eq_true rfl)) dL_law_278 ⟨Nat.le_of_ble_eq_true rfl, Nat.le_of_ble_eq_true rfl⟩) hS (fun q _ h => hF q h) hF (fun r_1 w1 t H locs ht hvm hw hB hz1 hk1 hS => ?_)
  obtain ⟨hP, hD⟩ := fJ (wr := [(h1, .inr (11, [.int (nI 0), .ref q, .int (nI 8), .int (nI 0), .int (nI 0), .int (nI 0), .int (nI 0), .long 0])), (q, .inr (1, [.int (nI 0), .ref z, .int (nI 0)])), (od, .inl (kA 5, 1, .inr (.inr (.inr (.inl (fun _ => 0))))))]) hP hD [0, 1, 4] [2, 3, 5] rfl rfl (by decide) (by decide) hk1 hF ht hB
  try dsimp only at hw
  obtain ⟨rfl, e_1⟩ := hw
  replace e_1 := e_1.symm
  subst e_1
  have hP : va_P D vwCl [(h1, .inr (11, [.int (nI 0), .ref q, .int (nI 8), .int (nI 0), .int (nI 0), .int (nI 0), .int (nI 0), .long 0])), (q, .inr (1, [.int (nI 0), .ref z, .int (nI 0)])), (od, .inl (kA 5, 1, .inr (.inr (.inr (.inl (fun _ => 0)))))), (h0, .inr (7, [.ref a, .int (nI 0), .int (nI 8), .int (nI 0), .int (nI 0), .int (nI 0), .int (nI 0)])), (a, .inl (kA 2, 4, .inr (.inr (.inr (.inr (fun _ => none)))))), (o, .inl (kA 4, 1, .inr (.inl (fun _ => 0))))] H := hP
  have hD : va_D A [(h1, .inr (11, [.int (nI 0), .ref q, .int (nI 8), .int (nI 0), .int (nI 0), .int (nI 0), .int (nI 0), .long 0])), (q, .inr (1, [.int (nI 0), .ref z, .int (nI 0)])), (od, .inl (kA 5, 1, .inr (.inr (.inr (.inl (fun _ => 0)))))), (h0, .inr (7, [.ref a, .int (nI 0), .int (nI 8), .int (nI 0), .int (nI 0), .int (nI 0), .int (nI 0)])), (a, .inl (kA 2, 4, .inr (.inr (.inr (.inr (fun _ => none)))))), (o, .inl (kA 4, 1, .inr (.inl (fun _ => 0))))] := hD
  refine lv_istore (lv' := [(6, .int (nI 1)), (5, .int (nI 0)), (4, .ref od), (3, .ref o), (2, .ref h1), (1, .ref h0), (0, .ref b)]) hx hb dL_law_281 hl (by decide) rfl (fun ls hl => ?_)
  refine lv_aload_n hx hb dL_law_283 rfl (lv_at hl 4 rfl) ?_
  refine lv_aload_n hx hb dL_law_284 rfl (lv_at hl 6 rfl) ?_
  refine lv_iload hx hb dL_law_285 (lv_at hl 1 rfl) ?_
  refine lv_iconst (v := nI 1) hx hb dL_law_287 (by decide) ?_
  refine lv_iadd hx hb dL_law_288 ?_
  rw [show nI 0 + nI 1 = nI 1 from by decide]
  refine va_sld hx hb hX hbl hbA hS (vp_in_nI (n := 1) (by decide) (by decide)) dL_law_289 ?_
  rw [nI_clamp (n := 1) (by decide)]
  refine lv_aload_n hx hb dL_law_290 rfl (lv_at hl 6 rfl) ?_
  refine lv_iload hx hb dL_law_291 (lv_at hl 1 rfl) ?_
  refine lv_iconst (v := nI 2) hx hb dL_law_293 (by decide) ?_
  refine lv_iadd hx hb dL_law_294 ?_
  rw [show nI 0 + nI 2 = nI 2 from by decide]
  refine va_sld hx hb hX hbl hbA hS (vp_in_nI (n := 2) (by decide) (by decide)) dL_law_295 ?_
  rw [nI_clamp (n := 2) (by decide)]
  have hF := va_free (wc := [(h1, .inr (11, [.int (nI 0), .ref q, .int (nI 8), .int (nI 0), .int (nI 0), .int (nI 0), .int (nI 0), .long 0])), (q, .inr (1, [.int (nI 0), .ref z, .int (nI 0)]))]) hD hS hA [0, 1] rfl
  refine va_calli (va_runV (As := [.int (xs 1), .int (xs 2)]) (rest := []) ⟨hx, hb, hml, hown, hts⟩ (c_X10_write_e l D kA z h1 q (nI 0) (xs 1) (xs 2)  _) (cwV 2 hts h_law_10 rfl rfl rfl (by decide +kernel) ⟨Nat.le_of_ble_eq_true rfl, Nat.le_of_ble_eq_true rfl⟩) (fPv hK hP hD hS hG hF [0, 1] (by decide) rfl 0 11 rfl rfl rfl) rfl rfl hl.1 rfl (lv_room (Nat.le_of_ble_eq_true rfl)) dL_law_296 ⟨Nat.le_of_ble_eq_true rfl, Nat.le_of_ble_eq_true rfl⟩) hS (fun q _ h => hF q h) hF (fun r_2 w1 t H locs ht hvm hw hB hz1 hk1 hS => ?_)
  obtain ⟨hP, hD⟩ := fJ (wr := [(od, .inl (kA 5, 1, .inr (.inr (.inr (.inl (fun _ => 0)))))), (h0, .inr (7, [.ref a, .int (nI 0), .int (nI 8), .int (nI 0), .int (nI 0), .int (nI 0), .int (nI 0)])), (a, .inl (kA 2, 4, .inr (.inr (.inr (.inr (fun _ => none)))))), (o, .inl (kA 4, 1, .inr (.inl (fun _ => 0))))]) hP hD [0, 1] [2, 3, 4, 5] rfl rfl (by decide) (by decide) hk1 hF ht hB
  try dsimp only at hw
  subst hw
  have hP : va_P D vwCl [(od, .inl (kA 5, 1, .inr (.inr (.inr (.inl (fun _ => 0)))))), (h0, .inr (7, [.ref a, .int (nI 0), .int (nI 8), .int (nI 0), .int (nI 0), .int (nI 0), .int (nI 0)])), (a, .inl (kA 2, 4, .inr (.inr (.inr (.inr (fun _ => none)))))), (o, .inl (kA 4, 1, .inr (.inl (fun _ => 0)))), (h1, .inr (11, [.int (nI 1), .ref q, .int (nI 8), .int (nI 0), .int (nI 0), .int (nI 0), .int (nI 0), .long 0])), (q, .inr (1, [.int (nI 0), .ref z, .int (nI 0)]))] H := hP
  have hD : va_D A [(od, .inl (kA 5, 1, .inr (.inr (.inr (.inl (fun _ => 0)))))), (h0, .inr (7, [.ref a, .int (nI 0), .int (nI 8), .int (nI 0), .int (nI 0), .int (nI 0), .int (nI 0)])), (a, .inl (kA 2, 4, .inr (.inr (.inr (.inr (fun _ => none)))))), (o, .inl (kA 4, 1, .inr (.inl (fun _ => 0)))), (h1, .inr (11, [.int (nI 1), .ref q, .int (nI 8), .int (nI 0), .int (nI 0), .int (nI 0), .int (nI 0), .long 0])), (q, .inr (1, [.int (nI 0), .ref z, .int (nI 0)]))] := hD
  refine lv_istore (lv' := [(7, .int r_2), (6, .int (nI 1)), (5, .int (nI 0)), (4, .ref od), (3, .ref o), (2, .ref h1), (1, .ref h0), (0, .ref b)]) hx hb dL_law_299 hl (by decide) rfl (fun ls hl => ?_)
  refine lv_aload_n hx hb dL_law_301 rfl (lv_at hl 5 rfl) ?_
  have hF := va_free (wc := [(h1, .inr (11, [.int (nI 1), .ref q, .int (nI 8), .int (nI 0), .int (nI 0), .int (nI 0), .int (nI 0), .long 0]))]) hD hS hA [4] rfl
  refine va_calli (va_runV (As := []) (rest := []) ⟨hx, hb, hml, hown, hts⟩ (c_X10_thrown l D kA z h1 q (nI 1) (nI 8) (nI 0) (nI 0) (nI 0) (nI 0) 0  _) (cwV 0 hts h_law_2 rfl rfl rfl (by decide +kernel) ⟨Nat.le_of_ble_eq_true rfl, Nat.le_of_ble_eq_true rfl⟩) (fPv hK hP hD hS hG hF [4] (by decide) rfl 4 11 rfl rfl rfl) rfl rfl hl.1 rfl (lv_room (Nat.le_of_ble_eq_true rfl)) dL_law_302 ⟨Nat.le_of_ble_eq_true rfl, Nat.le_of_ble_eq_true rfl⟩) hS (fun q _ h => hF q h) hF (fun r_3 w1 t H locs ht hvm hw hB hz1 hk1 hS => ?_)
  obtain ⟨hP, hD⟩ := fJ (wr := [(od, .inl (kA 5, 1, .inr (.inr (.inr (.inl (fun _ => 0)))))), (h0, .inr (7, [.ref a, .int (nI 0), .int (nI 8), .int (nI 0), .int (nI 0), .int (nI 0), .int (nI 0)])), (a, .inl (kA 2, 4, .inr (.inr (.inr (.inr (fun _ => none)))))), (o, .inl (kA 4, 1, .inr (.inl (fun _ => 0)))), (q, .inr (1, [.int (nI 0), .ref z, .int (nI 0)]))]) hP hD [4] [0, 1, 2, 3, 5] rfl rfl (by decide) (by decide) hk1 hF ht hB
  try dsimp only at hw
  obtain ⟨rfl, e_2⟩ := hw
  replace e_2 := e_2.symm
  subst e_2
  have hP : va_P D vwCl [(od, .inl (kA 5, 1, .inr (.inr (.inr (.inl (fun _ => 0)))))), (h0, .inr (7, [.ref a, .int (nI 0), .int (nI 8), .int (nI 0), .int (nI 0), .int (nI 0), .int (nI 0)])), (a, .inl (kA 2, 4, .inr (.inr (.inr (.inr (fun _ => none)))))), (o, .inl (kA 4, 1, .inr (.inl (fun _ => 0)))), (q, .inr (1, [.int (nI 0), .ref z, .int (nI 0)])), (h1, .inr (11, [.int (nI 1), .ref q, .int (nI 8), .int (nI 0), .int (nI 0), .int (nI 0), .int (nI 0), .long 0]))] H := hP
  have hD : va_D A [(od, .inl (kA 5, 1, .inr (.inr (.inr (.inl (fun _ => 0)))))), (h0, .inr (7, [.ref a, .int (nI 0), .int (nI 8), .int (nI 0), .int (nI 0), .int (nI 0), .int (nI 0)])), (a, .inl (kA 2, 4, .inr (.inr (.inr (.inr (fun _ => none)))))), (o, .inl (kA 4, 1, .inr (.inl (fun _ => 0)))), (q, .inr (1, [.int (nI 0), .ref z, .int (nI 0)])), (h1, .inr (11, [.int (nI 1), .ref q, .int (nI 8), .int (nI 0), .int (nI 0), .int (nI 0), .int (nI 0), .long 0]))] := hD
  refine lv_iload hx hb dL_law_305 (lv_at hl 1 rfl) ?_
  refine lv_icmp_eq (tgt := 312) hx hb dL_law_307 (by decide) (fun _ => ?_) (fun c307 => absurd (by decide) c307)
  refine lv_iload hx hb dL_law_312 (lv_at hl 1 rfl) ?_
  refine lv_if_ne (tgt := 329) hx hb dL_law_314 (by decide) (fun _ => ?_) (fun c314 => absurd c314 (by decide))
  refine lv_goto (tgt := 1775) hx hb dL_law_329 (by decide) ?_
  subst hAe
  exact law_tail C0 hS (lv_sub hl [2, 7] rfl) (Nat.le_of_ble_eq_true rfl) (Nat.le_of_ble_eq_true rfl)

set_option maxHeartbeats 16000000 in
set_option maxRecDepth 100000 in
theorem law_case3 {p : Program} {e : Env} {s : State} {m : MethodId} {below : List Frame} {meth : Method} {c : Code} {l : Launch} {b : Nat} {xs : Nat → Int32} (hfl : l.stackTraces = false) (C0 : lw_At p s m meth c b 6 xs) (hts : ∀ w ∈ wq_law, w.before #[Value.ref b] s = true) {D : va_G} {kA : Nat → ClassId} {z : Nat} (hK : va_K D vwCl (tyL kA) s) (hG : gS z (fun q : Nat => s.heap.size ≤ q) s s.heap) {h0 a h1 q o od : Nat} {H : Heap} {locs : List Loc} {ls : Array Slot} (hP : va_P D vwCl [(h0, .inr (7, [.ref a, .int (nI 0), .int (nI 8), .int (nI 0), .int (nI 0), .int (nI 0), .int (nI 0)])), (a, .inl (kA 2, 4, .inr (.inr (.inr (.inr (fun _ => none)))))), (h1, .inr (11, [.int (nI 0), .ref q, .int (nI 8), .int (nI 0), .int (nI 0), .int (nI 0), .int (nI 0), .long 0])), (q, .inr (1, [.int (nI 0), .ref z, .int (nI 0)])), (o, .inl (kA 4, 1, .inr (.inl (fun _ => 0)))), (od, .inl (kA 5, 1, .inr (.inr (.inr (.inl (fun _ => 0))))))] H) (hD : va_D (fun q : Nat => s.heap.size ≤ q) [(h0, .inr (7, [.ref a, .int (nI 0), .int (nI 8), .int (nI 0), .int (nI 0), .int (nI 0), .int (nI 0)])), (a, .inl (kA 2, 4, .inr (.inr (.inr (.inr (fun _ => none)))))), (h1, .inr (11, [.int (nI 0), .ref q, .int (nI 8), .int (nI 0), .int (nI 0), .int (nI 0), .int (nI 0), .long 0])), (q, .inr (1, [.int (nI 0), .ref z, .int (nI 0)])), (o, .inl (kA 4, 1, .inr (.inl (fun _ => 0)))), (od, .inl (kA 5, 1, .inr (.inr (.inr (.inl (fun _ => 0))))))]) (hS : va_S (fun q : Nat => s.heap.size ≤ q) s.heap H locs) (hl : lv_has ls 9 [(5, .int (nI 0)), (4, .ref od), (3, .ref o), (2, .ref h1), (1, .ref h0), (0, .ref b)]) : W p l e room_1 s m #[Value.ref b] below meth c H locs 6 24 (lw_Z below #[Value.ref b] s) (F0 m 332 ls []) := by
  obtain ⟨hx, hb, hr, hml, hown, hts0, hX, hbl, hlocks, hgv⟩ := id C0
  have hA : ∀ q : Nat, s.heap.size ≤ q → (fun q : Nat => s.heap.size ≤ q) q := fun _ h => h
  have hbA : ¬ (fun q : Nat => s.heap.size ≤ q) b := Nat.not_le.mpr hbl
  generalize hAe : (fun q : Nat => s.heap.size ≤ q) = A at hD hS hA hbA hG
  refine lv_aload_n hx hb dL_law_332 rfl (lv_at hl 4 rfl) ?_
  refine lv_aload_n hx hb dL_law_333 rfl (lv_at hl 5 rfl) ?_
  refine lv_iload hx hb dL_law_334 (lv_at hl 0 rfl) ?_
  refine lv_iconst (v := nI 1) hx hb dL_law_336 (by decide) ?_
  refine lv_iadd hx hb dL_law_337 ?_
  rw [show nI 0 + nI 1 = nI 1 from by decide]
  refine va_sld hx hb hX hbl hbA hS (vp_in_nI (n := 1) (by decide) (by decide)) dL_law_338 ?_
  rw [nI_clamp (n := 1) (by decide)]
  refine lv_aload_n hx hb dL_law_339 rfl (lv_at hl 2 rfl) ?_
  have hF := va_free (wc := [(h0, .inr (7, [.ref a, .int (nI 0), .int (nI 8), .int (nI 0), .int (nI 0), .int (nI 0), .int (nI 0)])), (a, .inl (kA 2, 4, .inr (.inr (.inr (.inr (fun _ => none)))))), (o, .inl (kA 4, 1, .inr (.inl (fun _ => 0))))]) hD hS hA [0, 1, 4] rfl
  refine va_calli (vx_runSW (As := [.ref h0, .int (xs 1), .ref o]) (rest := []) ⟨hx, hb, hml, hown, hts⟩ (c_L_mark_e l D kA z hfl h0 a o (xs 1) (fun _ => 0)  _) (vx_cwSW 3 hts h_law_11 rfl rfl rfl (by decide +kernel) ⟨Nat.le_of_ble_eq_true rfl, Nat.le_of_ble_eq_true rfl⟩) (fPs hK hP hD hS hG hF [0, 1, 4] (by decide) rfl) rfl rfl hl.1 rfl (lv_room (Nat.le_of_ble_eq_true rfl)) dL_law_340 ⟨Nat.le_of_ble_eq_true rfl, Nat.le_of_ble_eq_true rfl⟩) hS (fun q _ h => hF q h) hF (fun r_1 w1 t H locs ht hvm hw hB hz1 hk1 hS => ?_)
  obtain ⟨hP, hD⟩ := fJ (wr := [(h1, .inr (11, [.int (nI 0), .ref q, .int (nI 8), .int (nI 0), .int (nI 0), .int (nI 0), .int (nI 0), .long 0])), (q, .inr (1, [.int (nI 0), .ref z, .int (nI 0)])), (od, .inl (kA 5, 1, .inr (.inr (.inr (.inl (fun _ => 0))))))]) hP hD [0, 1, 4] [2, 3, 5] rfl rfl (by decide) (by decide) hk1 hF ht hB
  try dsimp only at hw
  obtain ⟨rfl, e_1⟩ := hw
  replace e_1 := e_1.symm
  subst e_1
  have hP : va_P D vwCl [(h1, .inr (11, [.int (nI 0), .ref q, .int (nI 8), .int (nI 0), .int (nI 0), .int (nI 0), .int (nI 0), .long 0])), (q, .inr (1, [.int (nI 0), .ref z, .int (nI 0)])), (od, .inl (kA 5, 1, .inr (.inr (.inr (.inl (fun _ => 0)))))), (h0, .inr (7, [.ref a, .int (nI 0), .int (nI 8), .int (nI 0), .int (nI 0), .int (nI 0), .int (nI 0)])), (a, .inl (kA 2, 4, .inr (.inr (.inr (.inr (fun _ => none)))))), (o, .inl (kA 4, 1, .inr (.inl (fun _ => 0))))] H := hP
  have hD : va_D A [(h1, .inr (11, [.int (nI 0), .ref q, .int (nI 8), .int (nI 0), .int (nI 0), .int (nI 0), .int (nI 0), .long 0])), (q, .inr (1, [.int (nI 0), .ref z, .int (nI 0)])), (od, .inl (kA 5, 1, .inr (.inr (.inr (.inl (fun _ => 0)))))), (h0, .inr (7, [.ref a, .int (nI 0), .int (nI 8), .int (nI 0), .int (nI 0), .int (nI 0), .int (nI 0)])), (a, .inl (kA 2, 4, .inr (.inr (.inr (.inr (fun _ => none)))))), (o, .inl (kA 4, 1, .inr (.inl (fun _ => 0))))] := hD
  refine lv_istore (lv' := [(6, .int (nI 1)), (5, .int (nI 0)), (4, .ref od), (3, .ref o), (2, .ref h1), (1, .ref h0), (0, .ref b)]) hx hb dL_law_343 hl (by decide) rfl (fun ls hl => ?_)
  refine lv_aload_n hx hb dL_law_345 rfl (lv_at hl 4 rfl) ?_
  refine lv_aload_n hx hb dL_law_346 rfl (lv_at hl 6 rfl) ?_
  refine lv_iload hx hb dL_law_347 (lv_at hl 1 rfl) ?_
  refine lv_iconst (v := nI 1) hx hb dL_law_349 (by decide) ?_
  refine lv_iadd hx hb dL_law_350 ?_
  rw [show nI 0 + nI 1 = nI 1 from by decide]
  refine va_sld hx hb hX hbl hbA hS (vp_in_nI (n := 1) (by decide) (by decide)) dL_law_351 ?_
  rw [nI_clamp (n := 1) (by decide)]
  have hF := va_free (wc := [(h1, .inr (11, [.int (nI 0), .ref q, .int (nI 8), .int (nI 0), .int (nI 0), .int (nI 0), .int (nI 0), .long 0])), (q, .inr (1, [.int (nI 0), .ref z, .int (nI 0)]))]) hD hS hA [0, 1] rfl
  refine va_calli (va_runV (As := [.int (xs 1)]) (rest := []) ⟨hx, hb, hml, hown, hts⟩ (c_X10_mark_e l D kA z h1 q (nI 0) (xs 1)  _) (cwV 1 hts h_law_12 rfl rfl rfl (by decide +kernel) ⟨Nat.le_of_ble_eq_true rfl, Nat.le_of_ble_eq_true rfl⟩) (fPv hK hP hD hS hG hF [0, 1] (by decide) rfl 0 11 rfl rfl rfl) rfl rfl hl.1 rfl (lv_room (Nat.le_of_ble_eq_true rfl)) dL_law_352 ⟨Nat.le_of_ble_eq_true rfl, Nat.le_of_ble_eq_true rfl⟩) hS (fun q _ h => hF q h) hF (fun r_2 w1 t H locs ht hvm hw hB hz1 hk1 hS => ?_)
  obtain ⟨hP, hD⟩ := fJ (wr := [(od, .inl (kA 5, 1, .inr (.inr (.inr (.inl (fun _ => 0)))))), (h0, .inr (7, [.ref a, .int (nI 0), .int (nI 8), .int (nI 0), .int (nI 0), .int (nI 0), .int (nI 0)])), (a, .inl (kA 2, 4, .inr (.inr (.inr (.inr (fun _ => none)))))), (o, .inl (kA 4, 1, .inr (.inl (fun _ => 0))))]) hP hD [0, 1] [2, 3, 4, 5] rfl rfl (by decide) (by decide) hk1 hF ht hB
  try dsimp only at hw
  subst hw
  have hP : va_P D vwCl [(od, .inl (kA 5, 1, .inr (.inr (.inr (.inl (fun _ => 0)))))), (h0, .inr (7, [.ref a, .int (nI 0), .int (nI 8), .int (nI 0), .int (nI 0), .int (nI 0), .int (nI 0)])), (a, .inl (kA 2, 4, .inr (.inr (.inr (.inr (fun _ => none)))))), (o, .inl (kA 4, 1, .inr (.inl (fun _ => 0)))), (h1, .inr (11, [.int (nI 1), .ref q, .int (nI 8), .int (nI 0), .int (nI 0), .int (nI 0), .int (nI 0), .long 0])), (q, .inr (1, [.int (nI 0), .ref z, .int (nI 0)]))] H := hP
  have hD : va_D A [(od, .inl (kA 5, 1, .inr (.inr (.inr (.inl (fun _ => 0)))))), (h0, .inr (7, [.ref a, .int (nI 0), .int (nI 8), .int (nI 0), .int (nI 0), .int (nI 0), .int (nI 0)])), (a, .inl (kA 2, 4, .inr (.inr (.inr (.inr (fun _ => none)))))), (o, .inl (kA 4, 1, .inr (.inl (fun _ => 0)))), (h1, .inr (11, [.int (nI 1), .ref q, .int (nI 8), .int (nI 0), .int (nI 0), .int (nI 0), .int (nI 0), .long 0])), (q, .inr (1, [.int (nI 0), .ref z, .int (nI 0)]))] := hD
  refine lv_istore (lv' := [(7, .int r_2), (6, .int (nI 1)), (5, .int (nI 0)), (4, .ref od), (3, .ref o), (2, .ref h1), (1, .ref h0), (0, .ref b)]) hx hb dL_law_355 hl (by decide) rfl (fun ls hl => ?_)
  refine lv_aload_n hx hb dL_law_357 rfl (lv_at hl 5 rfl) ?_
  have hF := va_free (wc := [(h1, .inr (11, [.int (nI 1), .ref q, .int (nI 8), .int (nI 0), .int (nI 0), .int (nI 0), .int (nI 0), .long 0]))]) hD hS hA [4] rfl
  refine va_calli (va_runV (As := []) (rest := []) ⟨hx, hb, hml, hown, hts⟩ (c_X10_thrown l D kA z h1 q (nI 1) (nI 8) (nI 0) (nI 0) (nI 0) (nI 0) 0  _) (cwV 0 hts h_law_2 rfl rfl rfl (by decide +kernel) ⟨Nat.le_of_ble_eq_true rfl, Nat.le_of_ble_eq_true rfl⟩) (fPv hK hP hD hS hG hF [4] (by decide) rfl 4 11 rfl rfl rfl) rfl rfl hl.1 rfl (lv_room (Nat.le_of_ble_eq_true rfl)) dL_law_358 ⟨Nat.le_of_ble_eq_true rfl, Nat.le_of_ble_eq_true rfl⟩) hS (fun q _ h => hF q h) hF (fun r_3 w1 t H locs ht hvm hw hB hz1 hk1 hS => ?_)
  obtain ⟨hP, hD⟩ := fJ (wr := [(od, .inl (kA 5, 1, .inr (.inr (.inr (.inl (fun _ => 0)))))), (h0, .inr (7, [.ref a, .int (nI 0), .int (nI 8), .int (nI 0), .int (nI 0), .int (nI 0), .int (nI 0)])), (a, .inl (kA 2, 4, .inr (.inr (.inr (.inr (fun _ => none)))))), (o, .inl (kA 4, 1, .inr (.inl (fun _ => 0)))), (q, .inr (1, [.int (nI 0), .ref z, .int (nI 0)]))]) hP hD [4] [0, 1, 2, 3, 5] rfl rfl (by decide) (by decide) hk1 hF ht hB
  try dsimp only at hw
  obtain ⟨rfl, e_2⟩ := hw
  replace e_2 := e_2.symm
  subst e_2
  have hP : va_P D vwCl [(od, .inl (kA 5, 1, .inr (.inr (.inr (.inl (fun _ => 0)))))), (h0, .inr (7, [.ref a, .int (nI 0), .int (nI 8), .int (nI 0), .int (nI 0), .int (nI 0), .int (nI 0)])), (a, .inl (kA 2, 4, .inr (.inr (.inr (.inr (fun _ => none)))))), (o, .inl (kA 4, 1, .inr (.inl (fun _ => 0)))), (q, .inr (1, [.int (nI 0), .ref z, .int (nI 0)])), (h1, .inr (11, [.int (nI 1), .ref q, .int (nI 8), .int (nI 0), .int (nI 0), .int (nI 0), .int (nI 0), .long 0]))] H := hP
  have hD : va_D A [(od, .inl (kA 5, 1, .inr (.inr (.inr (.inl (fun _ => 0)))))), (h0, .inr (7, [.ref a, .int (nI 0), .int (nI 8), .int (nI 0), .int (nI 0), .int (nI 0), .int (nI 0)])), (a, .inl (kA 2, 4, .inr (.inr (.inr (.inr (fun _ => none)))))), (o, .inl (kA 4, 1, .inr (.inl (fun _ => 0)))), (q, .inr (1, [.int (nI 0), .ref z, .int (nI 0)])), (h1, .inr (11, [.int (nI 1), .ref q, .int (nI 8), .int (nI 0), .int (nI 0), .int (nI 0), .int (nI 0), .long 0]))] := hD
  refine lv_iload hx hb dL_law_361 (lv_at hl 1 rfl) ?_
  refine lv_icmp_eq (tgt := 368) hx hb dL_law_363 (by decide) (fun _ => ?_) (fun c363 => absurd (by decide) c363)
  refine lv_iload hx hb dL_law_368 (lv_at hl 1 rfl) ?_
  refine lv_if_ne (tgt := 385) hx hb dL_law_370 (by decide) (fun _ => ?_) (fun c370 => absurd c370 (by decide))
  refine lv_goto (tgt := 1775) hx hb dL_law_385 (by decide) ?_
  subst hAe
  exact law_tail C0 hS (lv_sub hl [2, 7] rfl) (Nat.le_of_ble_eq_true rfl) (Nat.le_of_ble_eq_true rfl)

set_option maxHeartbeats 16000000 in
set_option maxRecDepth 100000 in
theorem law_case4 {p : Program} {e : Env} {s : State} {m : MethodId} {below : List Frame} {meth : Method} {c : Code} {l : Launch} {b : Nat} {xs : Nat → Int32} (hfl : l.stackTraces = false) (C0 : lw_At p s m meth c b 6 xs) (hts : ∀ w ∈ wq_law, w.before #[Value.ref b] s = true) {D : va_G} {kA : Nat → ClassId} {z : Nat} (hK : va_K D vwCl (tyL kA) s) (hG : gS z (fun q : Nat => s.heap.size ≤ q) s s.heap) {h0 a h1 q o od : Nat} {H : Heap} {locs : List Loc} {ls : Array Slot} (hP : va_P D vwCl [(h0, .inr (7, [.ref a, .int (nI 0), .int (nI 8), .int (nI 0), .int (nI 0), .int (nI 0), .int (nI 0)])), (a, .inl (kA 2, 4, .inr (.inr (.inr (.inr (fun _ => none)))))), (h1, .inr (11, [.int (nI 0), .ref q, .int (nI 8), .int (nI 0), .int (nI 0), .int (nI 0), .int (nI 0), .long 0])), (q, .inr (1, [.int (nI 0), .ref z, .int (nI 0)])), (o, .inl (kA 4, 1, .inr (.inl (fun _ => 0)))), (od, .inl (kA 5, 1, .inr (.inr (.inr (.inl (fun _ => 0))))))] H) (hD : va_D (fun q : Nat => s.heap.size ≤ q) [(h0, .inr (7, [.ref a, .int (nI 0), .int (nI 8), .int (nI 0), .int (nI 0), .int (nI 0), .int (nI 0)])), (a, .inl (kA 2, 4, .inr (.inr (.inr (.inr (fun _ => none)))))), (h1, .inr (11, [.int (nI 0), .ref q, .int (nI 8), .int (nI 0), .int (nI 0), .int (nI 0), .int (nI 0), .long 0])), (q, .inr (1, [.int (nI 0), .ref z, .int (nI 0)])), (o, .inl (kA 4, 1, .inr (.inl (fun _ => 0)))), (od, .inl (kA 5, 1, .inr (.inr (.inr (.inl (fun _ => 0))))))]) (hS : va_S (fun q : Nat => s.heap.size ≤ q) s.heap H locs) (hl : lv_has ls 9 [(5, .int (nI 0)), (4, .ref od), (3, .ref o), (2, .ref h1), (1, .ref h0), (0, .ref b)]) : W p l e room_1 s m #[Value.ref b] below meth c H locs 6 24 (lw_Z below #[Value.ref b] s) (F0 m 388 ls []) := by
  obtain ⟨hx, hb, hr, hml, hown, hts0, hX, hbl, hlocks, hgv⟩ := id C0
  have hA : ∀ q : Nat, s.heap.size ≤ q → (fun q : Nat => s.heap.size ≤ q) q := fun _ h => h
  have hbA : ¬ (fun q : Nat => s.heap.size ≤ q) b := Nat.not_le.mpr hbl
  generalize hAe : (fun q : Nat => s.heap.size ≤ q) = A at hD hS hA hbA hG
  refine lv_aload_n hx hb dL_law_388 rfl (lv_at hl 4 rfl) ?_
  refine lv_aload_n hx hb dL_law_389 rfl (lv_at hl 5 rfl) ?_
  refine lv_iload hx hb dL_law_390 (lv_at hl 0 rfl) ?_
  refine lv_iconst (v := nI 1) hx hb dL_law_392 (by decide) ?_
  refine lv_iadd hx hb dL_law_393 ?_
  rw [show nI 0 + nI 1 = nI 1 from by decide]
  refine va_sld hx hb hX hbl hbA hS (vp_in_nI (n := 1) (by decide) (by decide)) dL_law_394 ?_
  rw [nI_clamp (n := 1) (by decide)]
  refine lv_aload_n hx hb dL_law_395 rfl (lv_at hl 5 rfl) ?_
  refine lv_iload hx hb dL_law_396 (lv_at hl 0 rfl) ?_
  refine lv_iconst (v := nI 2) hx hb dL_law_398 (by decide) ?_
  refine lv_iadd hx hb dL_law_399 ?_
  rw [show nI 0 + nI 2 = nI 2 from by decide]
  refine va_sld hx hb hX hbl hbA hS (vp_in_nI (n := 2) (by decide) (by decide)) dL_law_400 ?_
  rw [nI_clamp (n := 2) (by decide)]
  refine lv_aload_n hx hb dL_law_401 rfl (lv_at hl 5 rfl) ?_
  refine lv_iload hx hb dL_law_402 (lv_at hl 0 rfl) ?_
  refine lv_iconst (v := nI 3) hx hb dL_law_404 (by decide) ?_
  refine lv_iadd hx hb dL_law_405 ?_
  rw [show nI 0 + nI 3 = nI 3 from by decide]
  refine va_sld hx hb hX hbl hbA hS (vp_in_nI (n := 3) (by decide) (by decide)) dL_law_406 ?_
  rw [nI_clamp (n := 3) (by decide)]
  refine lv_aload_n hx hb dL_law_407 rfl (lv_at hl 5 rfl) ?_
  refine lv_iload hx hb dL_law_408 (lv_at hl 0 rfl) ?_
  refine lv_iconst (v := nI 4) hx hb dL_law_410 (by decide) ?_
  refine lv_iadd hx hb dL_law_411 ?_
  rw [show nI 0 + nI 4 = nI 4 from by decide]
  refine va_sld hx hb hX hbl hbA hS (vp_in_nI (n := 4) (by decide) (by decide)) dL_law_412 ?_
  rw [nI_clamp (n := 4) (by decide)]
  refine lv_aload_n hx hb dL_law_413 rfl (lv_at hl 5 rfl) ?_
  refine lv_iload hx hb dL_law_414 (lv_at hl 0 rfl) ?_
  refine lv_iconst (v := nI 5) hx hb dL_law_416 (by decide) ?_
  refine lv_iadd hx hb dL_law_417 ?_
  rw [show nI 0 + nI 5 = nI 5 from by decide]
  refine va_sld hx hb hX hbl hbA hS (vp_in_nI (n := 5) (by decide) (by decide)) dL_law_418 ?_
  rw [nI_clamp (n := 5) (by decide)]
  refine lv_if_eq (tgt := 426) hx hb dL_law_419 (by decide) (fun c419 => ?_) (fun c419 => ?_)
  ·
    refine lv_iconst (v := nI 0) hx hb dL_law_426 (by decide) ?_
    refine lv_aload_n hx hb dL_law_427 rfl (lv_at hl 2 rfl) ?_
    have hF := va_free (wc := [(h0, .inr (7, [.ref a, .int (nI 0), .int (nI 8), .int (nI 0), .int (nI 0), .int (nI 0), .int (nI 0)])), (a, .inl (kA 2, 4, .inr (.inr (.inr (.inr (fun _ => none)))))), (o, .inl (kA 4, 1, .inr (.inl (fun _ => 0))))]) hD hS hA [0, 1, 4] rfl
    refine va_calli (vx_runSW (As := [.ref h0, .int (xs 1), .int (xs 2), .int (xs 3), .int (xs 4), .int (nI 0), .ref o]) (rest := []) ⟨hx, hb, hml, hown, hts⟩ (c_L_sector_e l D kA z hfl h0 a o (xs 1) (xs 2) (xs 3) (xs 4) (nI 0) (fun _ => 0)  _) (vx_cwSW 7 hts h_law_13 rfl rfl rfl (by decide +kernel) ⟨Nat.le_of_ble_eq_true rfl, Nat.le_of_ble_eq_true rfl⟩) (fPs hK hP hD hS hG hF [0, 1, 4] (by decide) rfl) rfl rfl hl.1 rfl (lv_room (Nat.le_of_ble_eq_true rfl)) dL_law_428 ⟨Nat.le_of_ble_eq_true rfl, Nat.le_of_ble_eq_true rfl⟩) hS (fun q _ h => hF q h) hF (fun r_1 w1 t H locs ht hvm hw hB hz1 hk1 hS => ?_)
    obtain ⟨hP, hD⟩ := fJ (wr := [(h1, .inr (11, [.int (nI 0), .ref q, .int (nI 8), .int (nI 0), .int (nI 0), .int (nI 0), .int (nI 0), .long 0])), (q, .inr (1, [.int (nI 0), .ref z, .int (nI 0)])), (od, .inl (kA 5, 1, .inr (.inr (.inr (.inl (fun _ => 0))))))]) hP hD [0, 1, 4] [2, 3, 5] rfl rfl (by decide) (by decide) hk1 hF ht hB
    try dsimp only at hw
    obtain ⟨rfl, e_1⟩ := hw
    replace e_1 := e_1.symm
    subst e_1
    have hP : va_P D vwCl [(h1, .inr (11, [.int (nI 0), .ref q, .int (nI 8), .int (nI 0), .int (nI 0), .int (nI 0), .int (nI 0), .long 0])), (q, .inr (1, [.int (nI 0), .ref z, .int (nI 0)])), (od, .inl (kA 5, 1, .inr (.inr (.inr (.inl (fun _ => 0)))))), (h0, .inr (7, [.ref a, .int (nI 0), .int (nI 8), .int (nI 0), .int (nI 0), .int (nI 0), .int (nI 0)])), (a, .inl (kA 2, 4, .inr (.inr (.inr (.inr (fun _ => none)))))), (o, .inl (kA 4, 1, .inr (.inl (fun _ => 0))))] H := hP
    have hD : va_D A [(h1, .inr (11, [.int (nI 0), .ref q, .int (nI 8), .int (nI 0), .int (nI 0), .int (nI 0), .int (nI 0), .long 0])), (q, .inr (1, [.int (nI 0), .ref z, .int (nI 0)])), (od, .inl (kA 5, 1, .inr (.inr (.inr (.inl (fun _ => 0)))))), (h0, .inr (7, [.ref a, .int (nI 0), .int (nI 8), .int (nI 0), .int (nI 0), .int (nI 0), .int (nI 0)])), (a, .inl (kA 2, 4, .inr (.inr (.inr (.inr (fun _ => none)))))), (o, .inl (kA 4, 1, .inr (.inl (fun _ => 0))))] := hD
    refine lv_istore (lv' := [(6, .int (nI 1)), (5, .int (nI 0)), (4, .ref od), (3, .ref o), (2, .ref h1), (1, .ref h0), (0, .ref b)]) hx hb dL_law_431 hl (by decide) rfl (fun ls hl => ?_)
    refine lv_aload_n hx hb dL_law_433 rfl (lv_at hl 4 rfl) ?_
    refine lv_aload_n hx hb dL_law_434 rfl (lv_at hl 6 rfl) ?_
    refine lv_iload hx hb dL_law_435 (lv_at hl 1 rfl) ?_
    refine lv_iconst (v := nI 1) hx hb dL_law_437 (by decide) ?_
    refine lv_iadd hx hb dL_law_438 ?_
    rw [show nI 0 + nI 1 = nI 1 from by decide]
    refine va_sld hx hb hX hbl hbA hS (vp_in_nI (n := 1) (by decide) (by decide)) dL_law_439 ?_
    rw [nI_clamp (n := 1) (by decide)]
    refine lv_aload_n hx hb dL_law_440 rfl (lv_at hl 6 rfl) ?_
    refine lv_iload hx hb dL_law_441 (lv_at hl 1 rfl) ?_
    refine lv_iconst (v := nI 2) hx hb dL_law_443 (by decide) ?_
    refine lv_iadd hx hb dL_law_444 ?_
    rw [show nI 0 + nI 2 = nI 2 from by decide]
    refine va_sld hx hb hX hbl hbA hS (vp_in_nI (n := 2) (by decide) (by decide)) dL_law_445 ?_
    rw [nI_clamp (n := 2) (by decide)]
    refine lv_aload_n hx hb dL_law_446 rfl (lv_at hl 6 rfl) ?_
    refine lv_iload hx hb dL_law_447 (lv_at hl 1 rfl) ?_
    refine lv_iconst (v := nI 3) hx hb dL_law_449 (by decide) ?_
    refine lv_iadd hx hb dL_law_450 ?_
    rw [show nI 0 + nI 3 = nI 3 from by decide]
    refine va_sld hx hb hX hbl hbA hS (vp_in_nI (n := 3) (by decide) (by decide)) dL_law_451 ?_
    rw [nI_clamp (n := 3) (by decide)]
    refine lv_aload_n hx hb dL_law_452 rfl (lv_at hl 6 rfl) ?_
    refine lv_iload hx hb dL_law_453 (lv_at hl 1 rfl) ?_
    refine lv_iconst (v := nI 4) hx hb dL_law_455 (by decide) ?_
    refine lv_iadd hx hb dL_law_456 ?_
    rw [show nI 0 + nI 4 = nI 4 from by decide]
    refine va_sld hx hb hX hbl hbA hS (vp_in_nI (n := 4) (by decide) (by decide)) dL_law_457 ?_
    rw [nI_clamp (n := 4) (by decide)]
    refine lv_aload_n hx hb dL_law_458 rfl (lv_at hl 6 rfl) ?_
    refine lv_iload hx hb dL_law_459 (lv_at hl 1 rfl) ?_
    refine lv_iconst (v := nI 5) hx hb dL_law_461 (by decide) ?_
    refine lv_iadd hx hb dL_law_462 ?_
    rw [show nI 0 + nI 5 = nI 5 from by decide]
    refine va_sld hx hb hX hbl hbA hS (vp_in_nI (n := 5) (by decide) (by decide)) dL_law_463 ?_
    rw [nI_clamp (n := 5) (by decide)]
    refine lv_if_eq (tgt := 471) hx hb dL_law_464 (by decide) (fun c464 => ?_) (fun c464 => ?_)
    ·
      refine lv_iconst (v := nI 0) hx hb dL_law_471 (by decide) ?_
      have hF := va_free (wc := [(h1, .inr (11, [.int (nI 0), .ref q, .int (nI 8), .int (nI 0), .int (nI 0), .int (nI 0), .int (nI 0), .long 0])), (q, .inr (1, [.int (nI 0), .ref z, .int (nI 0)]))]) hD hS hA [0, 1] rfl
      refine va_calli (va_runV (As := [.int (xs 1), .int (xs 2), .int (xs 3), .int (xs 4), .int (nI 0)]) (rest := []) ⟨hx, hb, hml, hown, hts⟩ (c_X10_sector_e l D kA z h1 q (nI 0) (xs 1) (xs 2) (xs 3) (xs 4) (nI 0)  _) (cwV 5 hts h_law_14 rfl rfl rfl (by decide +kernel) ⟨Nat.le_of_ble_eq_true rfl, Nat.le_of_ble_eq_true rfl⟩) (fPv hK hP hD hS hG hF [0, 1] (by decide) rfl 0 11 rfl rfl rfl) rfl rfl hl.1 rfl (lv_room (Nat.le_of_ble_eq_true rfl)) dL_law_472 ⟨Nat.le_of_ble_eq_true rfl, Nat.le_of_ble_eq_true rfl⟩) hS (fun q _ h => hF q h) hF (fun r_2 w1 t H locs ht hvm hw hB hz1 hk1 hS => ?_)
      obtain ⟨hP, hD⟩ := fJ (wr := [(od, .inl (kA 5, 1, .inr (.inr (.inr (.inl (fun _ => 0)))))), (h0, .inr (7, [.ref a, .int (nI 0), .int (nI 8), .int (nI 0), .int (nI 0), .int (nI 0), .int (nI 0)])), (a, .inl (kA 2, 4, .inr (.inr (.inr (.inr (fun _ => none)))))), (o, .inl (kA 4, 1, .inr (.inl (fun _ => 0))))]) hP hD [0, 1] [2, 3, 4, 5] rfl rfl (by decide) (by decide) hk1 hF ht hB
      try dsimp only at hw
      subst hw
      have hP : va_P D vwCl [(od, .inl (kA 5, 1, .inr (.inr (.inr (.inl (fun _ => 0)))))), (h0, .inr (7, [.ref a, .int (nI 0), .int (nI 8), .int (nI 0), .int (nI 0), .int (nI 0), .int (nI 0)])), (a, .inl (kA 2, 4, .inr (.inr (.inr (.inr (fun _ => none)))))), (o, .inl (kA 4, 1, .inr (.inl (fun _ => 0)))), (h1, .inr (11, [.int (nI 1), .ref q, .int (nI 8), .int (nI 0), .int (nI 0), .int (nI 0), .int (nI 0), .long 0])), (q, .inr (1, [.int (nI 0), .ref z, .int (nI 0)]))] H := hP
      have hD : va_D A [(od, .inl (kA 5, 1, .inr (.inr (.inr (.inl (fun _ => 0)))))), (h0, .inr (7, [.ref a, .int (nI 0), .int (nI 8), .int (nI 0), .int (nI 0), .int (nI 0), .int (nI 0)])), (a, .inl (kA 2, 4, .inr (.inr (.inr (.inr (fun _ => none)))))), (o, .inl (kA 4, 1, .inr (.inl (fun _ => 0)))), (h1, .inr (11, [.int (nI 1), .ref q, .int (nI 8), .int (nI 0), .int (nI 0), .int (nI 0), .int (nI 0), .long 0])), (q, .inr (1, [.int (nI 0), .ref z, .int (nI 0)]))] := hD
      refine lv_istore (lv' := [(7, .int r_2), (6, .int (nI 1)), (5, .int (nI 0)), (4, .ref od), (3, .ref o), (2, .ref h1), (1, .ref h0), (0, .ref b)]) hx hb dL_law_475 hl (by decide) rfl (fun ls hl => ?_)
      refine lv_aload_n hx hb dL_law_477 rfl (lv_at hl 5 rfl) ?_
      have hF := va_free (wc := [(h1, .inr (11, [.int (nI 1), .ref q, .int (nI 8), .int (nI 0), .int (nI 0), .int (nI 0), .int (nI 0), .long 0]))]) hD hS hA [4] rfl
      refine va_calli (va_runV (As := []) (rest := []) ⟨hx, hb, hml, hown, hts⟩ (c_X10_thrown l D kA z h1 q (nI 1) (nI 8) (nI 0) (nI 0) (nI 0) (nI 0) 0  _) (cwV 0 hts h_law_2 rfl rfl rfl (by decide +kernel) ⟨Nat.le_of_ble_eq_true rfl, Nat.le_of_ble_eq_true rfl⟩) (fPv hK hP hD hS hG hF [4] (by decide) rfl 4 11 rfl rfl rfl) rfl rfl hl.1 rfl (lv_room (Nat.le_of_ble_eq_true rfl)) dL_law_478 ⟨Nat.le_of_ble_eq_true rfl, Nat.le_of_ble_eq_true rfl⟩) hS (fun q _ h => hF q h) hF (fun r_3 w1 t H locs ht hvm hw hB hz1 hk1 hS => ?_)
      obtain ⟨hP, hD⟩ := fJ (wr := [(od, .inl (kA 5, 1, .inr (.inr (.inr (.inl (fun _ => 0)))))), (h0, .inr (7, [.ref a, .int (nI 0), .int (nI 8), .int (nI 0), .int (nI 0), .int (nI 0), .int (nI 0)])), (a, .inl (kA 2, 4, .inr (.inr (.inr (.inr (fun _ => none)))))), (o, .inl (kA 4, 1, .inr (.inl (fun _ => 0)))), (q, .inr (1, [.int (nI 0), .ref z, .int (nI 0)]))]) hP hD [4] [0, 1, 2, 3, 5] rfl rfl (by decide) (by decide) hk1 hF ht hB
      try dsimp only at hw
      obtain ⟨rfl, e_2⟩ := hw
      replace e_2 := e_2.symm
      subst e_2
      have hP : va_P D vwCl [(od, .inl (kA 5, 1, .inr (.inr (.inr (.inl (fun _ => 0)))))), (h0, .inr (7, [.ref a, .int (nI 0), .int (nI 8), .int (nI 0), .int (nI 0), .int (nI 0), .int (nI 0)])), (a, .inl (kA 2, 4, .inr (.inr (.inr (.inr (fun _ => none)))))), (o, .inl (kA 4, 1, .inr (.inl (fun _ => 0)))), (q, .inr (1, [.int (nI 0), .ref z, .int (nI 0)])), (h1, .inr (11, [.int (nI 1), .ref q, .int (nI 8), .int (nI 0), .int (nI 0), .int (nI 0), .int (nI 0), .long 0]))] H := hP
      have hD : va_D A [(od, .inl (kA 5, 1, .inr (.inr (.inr (.inl (fun _ => 0)))))), (h0, .inr (7, [.ref a, .int (nI 0), .int (nI 8), .int (nI 0), .int (nI 0), .int (nI 0), .int (nI 0)])), (a, .inl (kA 2, 4, .inr (.inr (.inr (.inr (fun _ => none)))))), (o, .inl (kA 4, 1, .inr (.inl (fun _ => 0)))), (q, .inr (1, [.int (nI 0), .ref z, .int (nI 0)])), (h1, .inr (11, [.int (nI 1), .ref q, .int (nI 8), .int (nI 0), .int (nI 0), .int (nI 0), .int (nI 0), .long 0]))] := hD
      refine lv_iload hx hb dL_law_481 (lv_at hl 1 rfl) ?_
      refine lv_icmp_eq (tgt := 488) hx hb dL_law_483 (by decide) (fun _ => ?_) (fun c483 => absurd (by decide) c483)
      refine lv_iload hx hb dL_law_488 (lv_at hl 1 rfl) ?_
      refine lv_if_ne (tgt := 505) hx hb dL_law_490 (by decide) (fun _ => ?_) (fun c490 => absurd c490 (by decide))
      refine lv_goto (tgt := 1775) hx hb dL_law_505 (by decide) ?_
      subst hAe
      exact law_tail C0 hS (lv_sub hl [2, 7] rfl) (Nat.le_of_ble_eq_true rfl) (Nat.le_of_ble_eq_true rfl)
    ·
      refine lv_iconst (v := nI 1) hx hb dL_law_467 (by decide) ?_
      refine lv_goto (tgt := 472) hx hb dL_law_468 (by decide) ?_
      have hF := va_free (wc := [(h1, .inr (11, [.int (nI 0), .ref q, .int (nI 8), .int (nI 0), .int (nI 0), .int (nI 0), .int (nI 0), .long 0])), (q, .inr (1, [.int (nI 0), .ref z, .int (nI 0)]))]) hD hS hA [0, 1] rfl
      refine va_calli (va_runV (As := [.int (xs 1), .int (xs 2), .int (xs 3), .int (xs 4), .int (nI 1)]) (rest := []) ⟨hx, hb, hml, hown, hts⟩ (c_X10_sector_e l D kA z h1 q (nI 0) (xs 1) (xs 2) (xs 3) (xs 4) (nI 1)  _) (cwV 5 hts h_law_14 rfl rfl rfl (by decide +kernel) ⟨Nat.le_of_ble_eq_true rfl, Nat.le_of_ble_eq_true rfl⟩) (fPv hK hP hD hS hG hF [0, 1] (by decide) rfl 0 11 rfl rfl rfl) rfl rfl hl.1 rfl (lv_room (Nat.le_of_ble_eq_true rfl)) dL_law_472 ⟨Nat.le_of_ble_eq_true rfl, Nat.le_of_ble_eq_true rfl⟩) hS (fun q _ h => hF q h) hF (fun r_4 w1 t H locs ht hvm hw hB hz1 hk1 hS => ?_)
      obtain ⟨hP, hD⟩ := fJ (wr := [(od, .inl (kA 5, 1, .inr (.inr (.inr (.inl (fun _ => 0)))))), (h0, .inr (7, [.ref a, .int (nI 0), .int (nI 8), .int (nI 0), .int (nI 0), .int (nI 0), .int (nI 0)])), (a, .inl (kA 2, 4, .inr (.inr (.inr (.inr (fun _ => none)))))), (o, .inl (kA 4, 1, .inr (.inl (fun _ => 0))))]) hP hD [0, 1] [2, 3, 4, 5] rfl rfl (by decide) (by decide) hk1 hF ht hB
      try dsimp only at hw
      subst hw
      have hP : va_P D vwCl [(od, .inl (kA 5, 1, .inr (.inr (.inr (.inl (fun _ => 0)))))), (h0, .inr (7, [.ref a, .int (nI 0), .int (nI 8), .int (nI 0), .int (nI 0), .int (nI 0), .int (nI 0)])), (a, .inl (kA 2, 4, .inr (.inr (.inr (.inr (fun _ => none)))))), (o, .inl (kA 4, 1, .inr (.inl (fun _ => 0)))), (h1, .inr (11, [.int (nI 1), .ref q, .int (nI 8), .int (nI 0), .int (nI 0), .int (nI 0), .int (nI 0), .long 0])), (q, .inr (1, [.int (nI 0), .ref z, .int (nI 0)]))] H := hP
      have hD : va_D A [(od, .inl (kA 5, 1, .inr (.inr (.inr (.inl (fun _ => 0)))))), (h0, .inr (7, [.ref a, .int (nI 0), .int (nI 8), .int (nI 0), .int (nI 0), .int (nI 0), .int (nI 0)])), (a, .inl (kA 2, 4, .inr (.inr (.inr (.inr (fun _ => none)))))), (o, .inl (kA 4, 1, .inr (.inl (fun _ => 0)))), (h1, .inr (11, [.int (nI 1), .ref q, .int (nI 8), .int (nI 0), .int (nI 0), .int (nI 0), .int (nI 0), .long 0])), (q, .inr (1, [.int (nI 0), .ref z, .int (nI 0)]))] := hD
      refine lv_istore (lv' := [(7, .int r_4), (6, .int (nI 1)), (5, .int (nI 0)), (4, .ref od), (3, .ref o), (2, .ref h1), (1, .ref h0), (0, .ref b)]) hx hb dL_law_475 hl (by decide) rfl (fun ls hl => ?_)
      refine lv_aload_n hx hb dL_law_477 rfl (lv_at hl 5 rfl) ?_
      have hF := va_free (wc := [(h1, .inr (11, [.int (nI 1), .ref q, .int (nI 8), .int (nI 0), .int (nI 0), .int (nI 0), .int (nI 0), .long 0]))]) hD hS hA [4] rfl
      refine va_calli (va_runV (As := []) (rest := []) ⟨hx, hb, hml, hown, hts⟩ (c_X10_thrown l D kA z h1 q (nI 1) (nI 8) (nI 0) (nI 0) (nI 0) (nI 0) 0  _) (cwV 0 hts h_law_2 rfl rfl rfl (by decide +kernel) ⟨Nat.le_of_ble_eq_true rfl, Nat.le_of_ble_eq_true rfl⟩) (fPv hK hP hD hS hG hF [4] (by decide) rfl 4 11 rfl rfl rfl) rfl rfl hl.1 rfl (lv_room (Nat.le_of_ble_eq_true rfl)) dL_law_478 ⟨Nat.le_of_ble_eq_true rfl, Nat.le_of_ble_eq_true rfl⟩) hS (fun q _ h => hF q h) hF (fun r_5 w1 t H locs ht hvm hw hB hz1 hk1 hS => ?_)
      obtain ⟨hP, hD⟩ := fJ (wr := [(od, .inl (kA 5, 1, .inr (.inr (.inr (.inl (fun _ => 0)))))), (h0, .inr (7, [.ref a, .int (nI 0), .int (nI 8), .int (nI 0), .int (nI 0), .int (nI 0), .int (nI 0)])), (a, .inl (kA 2, 4, .inr (.inr (.inr (.inr (fun _ => none)))))), (o, .inl (kA 4, 1, .inr (.inl (fun _ => 0)))), (q, .inr (1, [.int (nI 0), .ref z, .int (nI 0)]))]) hP hD [4] [0, 1, 2, 3, 5] rfl rfl (by decide) (by decide) hk1 hF ht hB
      try dsimp only at hw
      obtain ⟨rfl, e_3⟩ := hw
      replace e_3 := e_3.symm
      subst e_3
      have hP : va_P D vwCl [(od, .inl (kA 5, 1, .inr (.inr (.inr (.inl (fun _ => 0)))))), (h0, .inr (7, [.ref a, .int (nI 0), .int (nI 8), .int (nI 0), .int (nI 0), .int (nI 0), .int (nI 0)])), (a, .inl (kA 2, 4, .inr (.inr (.inr (.inr (fun _ => none)))))), (o, .inl (kA 4, 1, .inr (.inl (fun _ => 0)))), (q, .inr (1, [.int (nI 0), .ref z, .int (nI 0)])), (h1, .inr (11, [.int (nI 1), .ref q, .int (nI 8), .int (nI 0), .int (nI 0), .int (nI 0), .int (nI 0), .long 0]))] H := hP
      have hD : va_D A [(od, .inl (kA 5, 1, .inr (.inr (.inr (.inl (fun _ => 0)))))), (h0, .inr (7, [.ref a, .int (nI 0), .int (nI 8), .int (nI 0), .int (nI 0), .int (nI 0), .int (nI 0)])), (a, .inl (kA 2, 4, .inr (.inr (.inr (.inr (fun _ => none)))))), (o, .inl (kA 4, 1, .inr (.inl (fun _ => 0)))), (q, .inr (1, [.int (nI 0), .ref z, .int (nI 0)])), (h1, .inr (11, [.int (nI 1), .ref q, .int (nI 8), .int (nI 0), .int (nI 0), .int (nI 0), .int (nI 0), .long 0]))] := hD
      refine lv_iload hx hb dL_law_481 (lv_at hl 1 rfl) ?_
      refine lv_icmp_eq (tgt := 488) hx hb dL_law_483 (by decide) (fun _ => ?_) (fun c483 => absurd (by decide) c483)
      refine lv_iload hx hb dL_law_488 (lv_at hl 1 rfl) ?_
      refine lv_if_ne (tgt := 505) hx hb dL_law_490 (by decide) (fun _ => ?_) (fun c490 => absurd c490 (by decide))
      refine lv_goto (tgt := 1775) hx hb dL_law_505 (by decide) ?_
      subst hAe
      exact law_tail C0 hS (lv_sub hl [2, 7] rfl) (Nat.le_of_ble_eq_true rfl) (Nat.le_of_ble_eq_true rfl)
  ·
    refine lv_iconst (v := nI 1) hx hb dL_law_422 (by decide) ?_
    refine lv_goto (tgt := 427) hx hb dL_law_423 (by decide) ?_
    refine lv_aload_n hx hb dL_law_427 rfl (lv_at hl 2 rfl) ?_
    have hF := va_free (wc := [(h0, .inr (7, [.ref a, .int (nI 0), .int (nI 8), .int (nI 0), .int (nI 0), .int (nI 0), .int (nI 0)])), (a, .inl (kA 2, 4, .inr (.inr (.inr (.inr (fun _ => none)))))), (o, .inl (kA 4, 1, .inr (.inl (fun _ => 0))))]) hD hS hA [0, 1, 4] rfl
    refine va_calli (vx_runSW (As := [.ref h0, .int (xs 1), .int (xs 2), .int (xs 3), .int (xs 4), .int (nI 1), .ref o]) (rest := []) ⟨hx, hb, hml, hown, hts⟩ (c_L_sector_e l D kA z hfl h0 a o (xs 1) (xs 2) (xs 3) (xs 4) (nI 1) (fun _ => 0)  _) (vx_cwSW 7 hts h_law_13 rfl rfl rfl (by decide +kernel) ⟨Nat.le_of_ble_eq_true rfl, Nat.le_of_ble_eq_true rfl⟩) (fPs hK hP hD hS hG hF [0, 1, 4] (by decide) rfl) rfl rfl hl.1 rfl (lv_room (Nat.le_of_ble_eq_true rfl)) dL_law_428 ⟨Nat.le_of_ble_eq_true rfl, Nat.le_of_ble_eq_true rfl⟩) hS (fun q _ h => hF q h) hF (fun r_6 w1 t H locs ht hvm hw hB hz1 hk1 hS => ?_)
    obtain ⟨hP, hD⟩ := fJ (wr := [(h1, .inr (11, [.int (nI 0), .ref q, .int (nI 8), .int (nI 0), .int (nI 0), .int (nI 0), .int (nI 0), .long 0])), (q, .inr (1, [.int (nI 0), .ref z, .int (nI 0)])), (od, .inl (kA 5, 1, .inr (.inr (.inr (.inl (fun _ => 0))))))]) hP hD [0, 1, 4] [2, 3, 5] rfl rfl (by decide) (by decide) hk1 hF ht hB
    try dsimp only at hw
    obtain ⟨rfl, e_4⟩ := hw
    replace e_4 := e_4.symm
    subst e_4
    have hP : va_P D vwCl [(h1, .inr (11, [.int (nI 0), .ref q, .int (nI 8), .int (nI 0), .int (nI 0), .int (nI 0), .int (nI 0), .long 0])), (q, .inr (1, [.int (nI 0), .ref z, .int (nI 0)])), (od, .inl (kA 5, 1, .inr (.inr (.inr (.inl (fun _ => 0)))))), (h0, .inr (7, [.ref a, .int (nI 0), .int (nI 8), .int (nI 0), .int (nI 0), .int (nI 0), .int (nI 0)])), (a, .inl (kA 2, 4, .inr (.inr (.inr (.inr (fun _ => none)))))), (o, .inl (kA 4, 1, .inr (.inl (fun _ => 0))))] H := hP
    have hD : va_D A [(h1, .inr (11, [.int (nI 0), .ref q, .int (nI 8), .int (nI 0), .int (nI 0), .int (nI 0), .int (nI 0), .long 0])), (q, .inr (1, [.int (nI 0), .ref z, .int (nI 0)])), (od, .inl (kA 5, 1, .inr (.inr (.inr (.inl (fun _ => 0)))))), (h0, .inr (7, [.ref a, .int (nI 0), .int (nI 8), .int (nI 0), .int (nI 0), .int (nI 0), .int (nI 0)])), (a, .inl (kA 2, 4, .inr (.inr (.inr (.inr (fun _ => none)))))), (o, .inl (kA 4, 1, .inr (.inl (fun _ => 0))))] := hD
    refine lv_istore (lv' := [(6, .int (nI 1)), (5, .int (nI 0)), (4, .ref od), (3, .ref o), (2, .ref h1), (1, .ref h0), (0, .ref b)]) hx hb dL_law_431 hl (by decide) rfl (fun ls hl => ?_)
    refine lv_aload_n hx hb dL_law_433 rfl (lv_at hl 4 rfl) ?_
    refine lv_aload_n hx hb dL_law_434 rfl (lv_at hl 6 rfl) ?_
    refine lv_iload hx hb dL_law_435 (lv_at hl 1 rfl) ?_
    refine lv_iconst (v := nI 1) hx hb dL_law_437 (by decide) ?_
    refine lv_iadd hx hb dL_law_438 ?_
    rw [show nI 0 + nI 1 = nI 1 from by decide]
    refine va_sld hx hb hX hbl hbA hS (vp_in_nI (n := 1) (by decide) (by decide)) dL_law_439 ?_
    rw [nI_clamp (n := 1) (by decide)]
    refine lv_aload_n hx hb dL_law_440 rfl (lv_at hl 6 rfl) ?_
    refine lv_iload hx hb dL_law_441 (lv_at hl 1 rfl) ?_
    refine lv_iconst (v := nI 2) hx hb dL_law_443 (by decide) ?_
    refine lv_iadd hx hb dL_law_444 ?_
    rw [show nI 0 + nI 2 = nI 2 from by decide]
    refine va_sld hx hb hX hbl hbA hS (vp_in_nI (n := 2) (by decide) (by decide)) dL_law_445 ?_
    rw [nI_clamp (n := 2) (by decide)]
    refine lv_aload_n hx hb dL_law_446 rfl (lv_at hl 6 rfl) ?_
    refine lv_iload hx hb dL_law_447 (lv_at hl 1 rfl) ?_
    refine lv_iconst (v := nI 3) hx hb dL_law_449 (by decide) ?_
    refine lv_iadd hx hb dL_law_450 ?_
    rw [show nI 0 + nI 3 = nI 3 from by decide]
    refine va_sld hx hb hX hbl hbA hS (vp_in_nI (n := 3) (by decide) (by decide)) dL_law_451 ?_
    rw [nI_clamp (n := 3) (by decide)]
    refine lv_aload_n hx hb dL_law_452 rfl (lv_at hl 6 rfl) ?_
    refine lv_iload hx hb dL_law_453 (lv_at hl 1 rfl) ?_
    refine lv_iconst (v := nI 4) hx hb dL_law_455 (by decide) ?_
    refine lv_iadd hx hb dL_law_456 ?_
    rw [show nI 0 + nI 4 = nI 4 from by decide]
    refine va_sld hx hb hX hbl hbA hS (vp_in_nI (n := 4) (by decide) (by decide)) dL_law_457 ?_
    rw [nI_clamp (n := 4) (by decide)]
    refine lv_aload_n hx hb dL_law_458 rfl (lv_at hl 6 rfl) ?_
    refine lv_iload hx hb dL_law_459 (lv_at hl 1 rfl) ?_
    refine lv_iconst (v := nI 5) hx hb dL_law_461 (by decide) ?_
    refine lv_iadd hx hb dL_law_462 ?_
    rw [show nI 0 + nI 5 = nI 5 from by decide]
    refine va_sld hx hb hX hbl hbA hS (vp_in_nI (n := 5) (by decide) (by decide)) dL_law_463 ?_
    rw [nI_clamp (n := 5) (by decide)]
    refine lv_if_eq (tgt := 471) hx hb dL_law_464 (by decide) (fun c464 => ?_) (fun c464 => ?_)
    ·
      refine lv_iconst (v := nI 0) hx hb dL_law_471 (by decide) ?_
      have hF := va_free (wc := [(h1, .inr (11, [.int (nI 0), .ref q, .int (nI 8), .int (nI 0), .int (nI 0), .int (nI 0), .int (nI 0), .long 0])), (q, .inr (1, [.int (nI 0), .ref z, .int (nI 0)]))]) hD hS hA [0, 1] rfl
      refine va_calli (va_runV (As := [.int (xs 1), .int (xs 2), .int (xs 3), .int (xs 4), .int (nI 0)]) (rest := []) ⟨hx, hb, hml, hown, hts⟩ (c_X10_sector_e l D kA z h1 q (nI 0) (xs 1) (xs 2) (xs 3) (xs 4) (nI 0)  _) (cwV 5 hts h_law_14 rfl rfl rfl (by decide +kernel) ⟨Nat.le_of_ble_eq_true rfl, Nat.le_of_ble_eq_true rfl⟩) (fPv hK hP hD hS hG hF [0, 1] (by decide) rfl 0 11 rfl rfl rfl) rfl rfl hl.1 rfl (lv_room (Nat.le_of_ble_eq_true rfl)) dL_law_472 ⟨Nat.le_of_ble_eq_true rfl, Nat.le_of_ble_eq_true rfl⟩) hS (fun q _ h => hF q h) hF (fun r_7 w1 t H locs ht hvm hw hB hz1 hk1 hS => ?_)
      obtain ⟨hP, hD⟩ := fJ (wr := [(od, .inl (kA 5, 1, .inr (.inr (.inr (.inl (fun _ => 0)))))), (h0, .inr (7, [.ref a, .int (nI 0), .int (nI 8), .int (nI 0), .int (nI 0), .int (nI 0), .int (nI 0)])), (a, .inl (kA 2, 4, .inr (.inr (.inr (.inr (fun _ => none)))))), (o, .inl (kA 4, 1, .inr (.inl (fun _ => 0))))]) hP hD [0, 1] [2, 3, 4, 5] rfl rfl (by decide) (by decide) hk1 hF ht hB
      try dsimp only at hw
      subst hw
      have hP : va_P D vwCl [(od, .inl (kA 5, 1, .inr (.inr (.inr (.inl (fun _ => 0)))))), (h0, .inr (7, [.ref a, .int (nI 0), .int (nI 8), .int (nI 0), .int (nI 0), .int (nI 0), .int (nI 0)])), (a, .inl (kA 2, 4, .inr (.inr (.inr (.inr (fun _ => none)))))), (o, .inl (kA 4, 1, .inr (.inl (fun _ => 0)))), (h1, .inr (11, [.int (nI 1), .ref q, .int (nI 8), .int (nI 0), .int (nI 0), .int (nI 0), .int (nI 0), .long 0])), (q, .inr (1, [.int (nI 0), .ref z, .int (nI 0)]))] H := hP
      have hD : va_D A [(od, .inl (kA 5, 1, .inr (.inr (.inr (.inl (fun _ => 0)))))), (h0, .inr (7, [.ref a, .int (nI 0), .int (nI 8), .int (nI 0), .int (nI 0), .int (nI 0), .int (nI 0)])), (a, .inl (kA 2, 4, .inr (.inr (.inr (.inr (fun _ => none)))))), (o, .inl (kA 4, 1, .inr (.inl (fun _ => 0)))), (h1, .inr (11, [.int (nI 1), .ref q, .int (nI 8), .int (nI 0), .int (nI 0), .int (nI 0), .int (nI 0), .long 0])), (q, .inr (1, [.int (nI 0), .ref z, .int (nI 0)]))] := hD
      refine lv_istore (lv' := [(7, .int r_7), (6, .int (nI 1)), (5, .int (nI 0)), (4, .ref od), (3, .ref o), (2, .ref h1), (1, .ref h0), (0, .ref b)]) hx hb dL_law_475 hl (by decide) rfl (fun ls hl => ?_)
      refine lv_aload_n hx hb dL_law_477 rfl (lv_at hl 5 rfl) ?_
      have hF := va_free (wc := [(h1, .inr (11, [.int (nI 1), .ref q, .int (nI 8), .int (nI 0), .int (nI 0), .int (nI 0), .int (nI 0), .long 0]))]) hD hS hA [4] rfl
      refine va_calli (va_runV (As := []) (rest := []) ⟨hx, hb, hml, hown, hts⟩ (c_X10_thrown l D kA z h1 q (nI 1) (nI 8) (nI 0) (nI 0) (nI 0) (nI 0) 0  _) (cwV 0 hts h_law_2 rfl rfl rfl (by decide +kernel) ⟨Nat.le_of_ble_eq_true rfl, Nat.le_of_ble_eq_true rfl⟩) (fPv hK hP hD hS hG hF [4] (by decide) rfl 4 11 rfl rfl rfl) rfl rfl hl.1 rfl (lv_room (Nat.le_of_ble_eq_true rfl)) dL_law_478 ⟨Nat.le_of_ble_eq_true rfl, Nat.le_of_ble_eq_true rfl⟩) hS (fun q _ h => hF q h) hF (fun r_8 w1 t H locs ht hvm hw hB hz1 hk1 hS => ?_)
      obtain ⟨hP, hD⟩ := fJ (wr := [(od, .inl (kA 5, 1, .inr (.inr (.inr (.inl (fun _ => 0)))))), (h0, .inr (7, [.ref a, .int (nI 0), .int (nI 8), .int (nI 0), .int (nI 0), .int (nI 0), .int (nI 0)])), (a, .inl (kA 2, 4, .inr (.inr (.inr (.inr (fun _ => none)))))), (o, .inl (kA 4, 1, .inr (.inl (fun _ => 0)))), (q, .inr (1, [.int (nI 0), .ref z, .int (nI 0)]))]) hP hD [4] [0, 1, 2, 3, 5] rfl rfl (by decide) (by decide) hk1 hF ht hB
      try dsimp only at hw
      obtain ⟨rfl, e_5⟩ := hw
      replace e_5 := e_5.symm
      subst e_5
      have hP : va_P D vwCl [(od, .inl (kA 5, 1, .inr (.inr (.inr (.inl (fun _ => 0)))))), (h0, .inr (7, [.ref a, .int (nI 0), .int (nI 8), .int (nI 0), .int (nI 0), .int (nI 0), .int (nI 0)])), (a, .inl (kA 2, 4, .inr (.inr (.inr (.inr (fun _ => none)))))), (o, .inl (kA 4, 1, .inr (.inl (fun _ => 0)))), (q, .inr (1, [.int (nI 0), .ref z, .int (nI 0)])), (h1, .inr (11, [.int (nI 1), .ref q, .int (nI 8), .int (nI 0), .int (nI 0), .int (nI 0), .int (nI 0), .long 0]))] H := hP
      have hD : va_D A [(od, .inl (kA 5, 1, .inr (.inr (.inr (.inl (fun _ => 0)))))), (h0, .inr (7, [.ref a, .int (nI 0), .int (nI 8), .int (nI 0), .int (nI 0), .int (nI 0), .int (nI 0)])), (a, .inl (kA 2, 4, .inr (.inr (.inr (.inr (fun _ => none)))))), (o, .inl (kA 4, 1, .inr (.inl (fun _ => 0)))), (q, .inr (1, [.int (nI 0), .ref z, .int (nI 0)])), (h1, .inr (11, [.int (nI 1), .ref q, .int (nI 8), .int (nI 0), .int (nI 0), .int (nI 0), .int (nI 0), .long 0]))] := hD
      refine lv_iload hx hb dL_law_481 (lv_at hl 1 rfl) ?_
      refine lv_icmp_eq (tgt := 488) hx hb dL_law_483 (by decide) (fun _ => ?_) (fun c483 => absurd (by decide) c483)
      refine lv_iload hx hb dL_law_488 (lv_at hl 1 rfl) ?_
      refine lv_if_ne (tgt := 505) hx hb dL_law_490 (by decide) (fun _ => ?_) (fun c490 => absurd c490 (by decide))
      refine lv_goto (tgt := 1775) hx hb dL_law_505 (by decide) ?_
      subst hAe
      exact law_tail C0 hS (lv_sub hl [2, 7] rfl) (Nat.le_of_ble_eq_true rfl) (Nat.le_of_ble_eq_true rfl)
    ·
      refine lv_iconst (v := nI 1) hx hb dL_law_467 (by decide) ?_
      refine lv_goto (tgt := 472) hx hb dL_law_468 (by decide) ?_
      have hF := va_free (wc := [(h1, .inr (11, [.int (nI 0), .ref q, .int (nI 8), .int (nI 0), .int (nI 0), .int (nI 0), .int (nI 0), .long 0])), (q, .inr (1, [.int (nI 0), .ref z, .int (nI 0)]))]) hD hS hA [0, 1] rfl
      refine va_calli (va_runV (As := [.int (xs 1), .int (xs 2), .int (xs 3), .int (xs 4), .int (nI 1)]) (rest := []) ⟨hx, hb, hml, hown, hts⟩ (c_X10_sector_e l D kA z h1 q (nI 0) (xs 1) (xs 2) (xs 3) (xs 4) (nI 1)  _) (cwV 5 hts h_law_14 rfl rfl rfl (by decide +kernel) ⟨Nat.le_of_ble_eq_true rfl, Nat.le_of_ble_eq_true rfl⟩) (fPv hK hP hD hS hG hF [0, 1] (by decide) rfl 0 11 rfl rfl rfl) rfl rfl hl.1 rfl (lv_room (Nat.le_of_ble_eq_true rfl)) dL_law_472 ⟨Nat.le_of_ble_eq_true rfl, Nat.le_of_ble_eq_true rfl⟩) hS (fun q _ h => hF q h) hF (fun r_9 w1 t H locs ht hvm hw hB hz1 hk1 hS => ?_)
      obtain ⟨hP, hD⟩ := fJ (wr := [(od, .inl (kA 5, 1, .inr (.inr (.inr (.inl (fun _ => 0)))))), (h0, .inr (7, [.ref a, .int (nI 0), .int (nI 8), .int (nI 0), .int (nI 0), .int (nI 0), .int (nI 0)])), (a, .inl (kA 2, 4, .inr (.inr (.inr (.inr (fun _ => none)))))), (o, .inl (kA 4, 1, .inr (.inl (fun _ => 0))))]) hP hD [0, 1] [2, 3, 4, 5] rfl rfl (by decide) (by decide) hk1 hF ht hB
      try dsimp only at hw
      subst hw
      have hP : va_P D vwCl [(od, .inl (kA 5, 1, .inr (.inr (.inr (.inl (fun _ => 0)))))), (h0, .inr (7, [.ref a, .int (nI 0), .int (nI 8), .int (nI 0), .int (nI 0), .int (nI 0), .int (nI 0)])), (a, .inl (kA 2, 4, .inr (.inr (.inr (.inr (fun _ => none)))))), (o, .inl (kA 4, 1, .inr (.inl (fun _ => 0)))), (h1, .inr (11, [.int (nI 1), .ref q, .int (nI 8), .int (nI 0), .int (nI 0), .int (nI 0), .int (nI 0), .long 0])), (q, .inr (1, [.int (nI 0), .ref z, .int (nI 0)]))] H := hP
      have hD : va_D A [(od, .inl (kA 5, 1, .inr (.inr (.inr (.inl (fun _ => 0)))))), (h0, .inr (7, [.ref a, .int (nI 0), .int (nI 8), .int (nI 0), .int (nI 0), .int (nI 0), .int (nI 0)])), (a, .inl (kA 2, 4, .inr (.inr (.inr (.inr (fun _ => none)))))), (o, .inl (kA 4, 1, .inr (.inl (fun _ => 0)))), (h1, .inr (11, [.int (nI 1), .ref q, .int (nI 8), .int (nI 0), .int (nI 0), .int (nI 0), .int (nI 0), .long 0])), (q, .inr (1, [.int (nI 0), .ref z, .int (nI 0)]))] := hD
      refine lv_istore (lv' := [(7, .int r_9), (6, .int (nI 1)), (5, .int (nI 0)), (4, .ref od), (3, .ref o), (2, .ref h1), (1, .ref h0), (0, .ref b)]) hx hb dL_law_475 hl (by decide) rfl (fun ls hl => ?_)
      refine lv_aload_n hx hb dL_law_477 rfl (lv_at hl 5 rfl) ?_
      have hF := va_free (wc := [(h1, .inr (11, [.int (nI 1), .ref q, .int (nI 8), .int (nI 0), .int (nI 0), .int (nI 0), .int (nI 0), .long 0]))]) hD hS hA [4] rfl
      refine va_calli (va_runV (As := []) (rest := []) ⟨hx, hb, hml, hown, hts⟩ (c_X10_thrown l D kA z h1 q (nI 1) (nI 8) (nI 0) (nI 0) (nI 0) (nI 0) 0  _) (cwV 0 hts h_law_2 rfl rfl rfl (by decide +kernel) ⟨Nat.le_of_ble_eq_true rfl, Nat.le_of_ble_eq_true rfl⟩) (fPv hK hP hD hS hG hF [4] (by decide) rfl 4 11 rfl rfl rfl) rfl rfl hl.1 rfl (lv_room (Nat.le_of_ble_eq_true rfl)) dL_law_478 ⟨Nat.le_of_ble_eq_true rfl, Nat.le_of_ble_eq_true rfl⟩) hS (fun q _ h => hF q h) hF (fun r_10 w1 t H locs ht hvm hw hB hz1 hk1 hS => ?_)
      obtain ⟨hP, hD⟩ := fJ (wr := [(od, .inl (kA 5, 1, .inr (.inr (.inr (.inl (fun _ => 0)))))), (h0, .inr (7, [.ref a, .int (nI 0), .int (nI 8), .int (nI 0), .int (nI 0), .int (nI 0), .int (nI 0)])), (a, .inl (kA 2, 4, .inr (.inr (.inr (.inr (fun _ => none)))))), (o, .inl (kA 4, 1, .inr (.inl (fun _ => 0)))), (q, .inr (1, [.int (nI 0), .ref z, .int (nI 0)]))]) hP hD [4] [0, 1, 2, 3, 5] rfl rfl (by decide) (by decide) hk1 hF ht hB
      try dsimp only at hw
      obtain ⟨rfl, e_6⟩ := hw
      replace e_6 := e_6.symm
      subst e_6
      have hP : va_P D vwCl [(od, .inl (kA 5, 1, .inr (.inr (.inr (.inl (fun _ => 0)))))), (h0, .inr (7, [.ref a, .int (nI 0), .int (nI 8), .int (nI 0), .int (nI 0), .int (nI 0), .int (nI 0)])), (a, .inl (kA 2, 4, .inr (.inr (.inr (.inr (fun _ => none)))))), (o, .inl (kA 4, 1, .inr (.inl (fun _ => 0)))), (q, .inr (1, [.int (nI 0), .ref z, .int (nI 0)])), (h1, .inr (11, [.int (nI 1), .ref q, .int (nI 8), .int (nI 0), .int (nI 0), .int (nI 0), .int (nI 0), .long 0]))] H := hP
      have hD : va_D A [(od, .inl (kA 5, 1, .inr (.inr (.inr (.inl (fun _ => 0)))))), (h0, .inr (7, [.ref a, .int (nI 0), .int (nI 8), .int (nI 0), .int (nI 0), .int (nI 0), .int (nI 0)])), (a, .inl (kA 2, 4, .inr (.inr (.inr (.inr (fun _ => none)))))), (o, .inl (kA 4, 1, .inr (.inl (fun _ => 0)))), (q, .inr (1, [.int (nI 0), .ref z, .int (nI 0)])), (h1, .inr (11, [.int (nI 1), .ref q, .int (nI 8), .int (nI 0), .int (nI 0), .int (nI 0), .int (nI 0), .long 0]))] := hD
      refine lv_iload hx hb dL_law_481 (lv_at hl 1 rfl) ?_
      refine lv_icmp_eq (tgt := 488) hx hb dL_law_483 (by decide) (fun _ => ?_) (fun c483 => absurd (by decide) c483)
      refine lv_iload hx hb dL_law_488 (lv_at hl 1 rfl) ?_
      refine lv_if_ne (tgt := 505) hx hb dL_law_490 (by decide) (fun _ => ?_) (fun c490 => absurd c490 (by decide))
      refine lv_goto (tgt := 1775) hx hb dL_law_505 (by decide) ?_
      subst hAe
      exact law_tail C0 hS (lv_sub hl [2, 7] rfl) (Nat.le_of_ble_eq_true rfl) (Nat.le_of_ble_eq_true rfl)

set_option maxHeartbeats 16000000 in
set_option maxRecDepth 100000 in
theorem law_case5 {p : Program} {e : Env} {s : State} {m : MethodId} {below : List Frame} {meth : Method} {c : Code} {l : Launch} {b : Nat} {xs : Nat → Int32} (hfl : l.stackTraces = false) (C0 : lw_At p s m meth c b 6 xs) (hts : ∀ w ∈ wq_law, w.before #[Value.ref b] s = true) {D : va_G} {kA : Nat → ClassId} {z : Nat} (hK : va_K D vwCl (tyL kA) s) (hG : gS z (fun q : Nat => s.heap.size ≤ q) s s.heap) {h0 a h1 q o od : Nat} {H : Heap} {locs : List Loc} {ls : Array Slot} (hP : va_P D vwCl [(h0, .inr (7, [.ref a, .int (nI 0), .int (nI 8), .int (nI 0), .int (nI 0), .int (nI 0), .int (nI 0)])), (a, .inl (kA 2, 4, .inr (.inr (.inr (.inr (fun _ => none)))))), (h1, .inr (11, [.int (nI 0), .ref q, .int (nI 8), .int (nI 0), .int (nI 0), .int (nI 0), .int (nI 0), .long 0])), (q, .inr (1, [.int (nI 0), .ref z, .int (nI 0)])), (o, .inl (kA 4, 1, .inr (.inl (fun _ => 0)))), (od, .inl (kA 5, 1, .inr (.inr (.inr (.inl (fun _ => 0))))))] H) (hD : va_D (fun q : Nat => s.heap.size ≤ q) [(h0, .inr (7, [.ref a, .int (nI 0), .int (nI 8), .int (nI 0), .int (nI 0), .int (nI 0), .int (nI 0)])), (a, .inl (kA 2, 4, .inr (.inr (.inr (.inr (fun _ => none)))))), (h1, .inr (11, [.int (nI 0), .ref q, .int (nI 8), .int (nI 0), .int (nI 0), .int (nI 0), .int (nI 0), .long 0])), (q, .inr (1, [.int (nI 0), .ref z, .int (nI 0)])), (o, .inl (kA 4, 1, .inr (.inl (fun _ => 0)))), (od, .inl (kA 5, 1, .inr (.inr (.inr (.inl (fun _ => 0))))))]) (hS : va_S (fun q : Nat => s.heap.size ≤ q) s.heap H locs) (hl : lv_has ls 9 [(5, .int (nI 0)), (4, .ref od), (3, .ref o), (2, .ref h1), (1, .ref h0), (0, .ref b)]) : W p l e room_1 s m #[Value.ref b] below meth c H locs 6 24 (lw_Z below #[Value.ref b] s) (F0 m 508 ls []) := by
  obtain ⟨hx, hb, hr, hml, hown, hts0, hX, hbl, hlocks, hgv⟩ := id C0
  have hA : ∀ q : Nat, s.heap.size ≤ q → (fun q : Nat => s.heap.size ≤ q) q := fun _ h => h
  have hbA : ¬ (fun q : Nat => s.heap.size ≤ q) b := Nat.not_le.mpr hbl
  generalize hAe : (fun q : Nat => s.heap.size ≤ q) = A at hD hS hA hbA hG
  refine lv_aload_n hx hb dL_law_508 rfl (lv_at hl 4 rfl) ?_
  refine lv_aload_n hx hb dL_law_509 rfl (lv_at hl 5 rfl) ?_
  refine lv_iload hx hb dL_law_510 (lv_at hl 0 rfl) ?_
  refine lv_iconst (v := nI 1) hx hb dL_law_512 (by decide) ?_
  refine lv_iadd hx hb dL_law_513 ?_
  rw [show nI 0 + nI 1 = nI 1 from by decide]
  refine va_sld hx hb hX hbl hbA hS (vp_in_nI (n := 1) (by decide) (by decide)) dL_law_514 ?_
  rw [nI_clamp (n := 1) (by decide)]
  refine lv_aload_n hx hb dL_law_515 rfl (lv_at hl 5 rfl) ?_
  refine lv_iload hx hb dL_law_516 (lv_at hl 0 rfl) ?_
  refine lv_iconst (v := nI 2) hx hb dL_law_518 (by decide) ?_
  refine lv_iadd hx hb dL_law_519 ?_
  rw [show nI 0 + nI 2 = nI 2 from by decide]
  refine va_sld hx hb hX hbl hbA hS (vp_in_nI (n := 2) (by decide) (by decide)) dL_law_520 ?_
  rw [nI_clamp (n := 2) (by decide)]
  refine lv_aload_n hx hb dL_law_521 rfl (lv_at hl 5 rfl) ?_
  refine lv_iload hx hb dL_law_522 (lv_at hl 0 rfl) ?_
  refine lv_iconst (v := nI 3) hx hb dL_law_524 (by decide) ?_
  refine lv_iadd hx hb dL_law_525 ?_
  rw [show nI 0 + nI 3 = nI 3 from by decide]
  refine va_sld hx hb hX hbl hbA hS (vp_in_nI (n := 3) (by decide) (by decide)) dL_law_526 ?_
  rw [nI_clamp (n := 3) (by decide)]
  refine lv_if_eq (tgt := 534) hx hb dL_law_527 (by decide) (fun c527 => ?_) (fun c527 => ?_)
  ·
    refine lv_iconst (v := nI 0) hx hb dL_law_534 (by decide) ?_
    refine lv_aload_n hx hb dL_law_535 rfl (lv_at hl 2 rfl) ?_
    have hF := va_free (wc := [(h0, .inr (7, [.ref a, .int (nI 0), .int (nI 8), .int (nI 0), .int (nI 0), .int (nI 0), .int (nI 0)])), (a, .inl (kA 2, 4, .inr (.inr (.inr (.inr (fun _ => none)))))), (o, .inl (kA 4, 1, .inr (.inl (fun _ => 0))))]) hD hS hA [0, 1, 4] rfl
    refine va_calli (vx_runSW (As := [.ref h0, .int (xs 1), .int (xs 2), .int (nI 0), .ref o]) (rest := []) ⟨hx, hb, hml, hown, hts⟩ (c_L_weak_e l D kA z hfl h0 a o (xs 1) (xs 2) (nI 0) (fun _ => 0)  _) (vx_cwSW 5 hts h_law_15 rfl rfl rfl (by decide +kernel) ⟨Nat.le_of_ble_eq_true rfl, Nat.le_of_ble_eq_true rfl⟩) (fPs hK hP hD hS hG hF [0, 1, 4] (by decide) rfl) rfl rfl hl.1 rfl (lv_room (Nat.le_of_ble_eq_true rfl)) dL_law_536 ⟨Nat.le_of_ble_eq_true rfl, Nat.le_of_ble_eq_true rfl⟩) hS (fun q _ h => hF q h) hF (fun r_1 w1 t H locs ht hvm hw hB hz1 hk1 hS => ?_)
    obtain ⟨hP, hD⟩ := fJ (wr := [(h1, .inr (11, [.int (nI 0), .ref q, .int (nI 8), .int (nI 0), .int (nI 0), .int (nI 0), .int (nI 0), .long 0])), (q, .inr (1, [.int (nI 0), .ref z, .int (nI 0)])), (od, .inl (kA 5, 1, .inr (.inr (.inr (.inl (fun _ => 0))))))]) hP hD [0, 1, 4] [2, 3, 5] rfl rfl (by decide) (by decide) hk1 hF ht hB
    try dsimp only at hw
    obtain ⟨rfl, e_1⟩ := hw
    replace e_1 := e_1.symm
    subst e_1
    have hP : va_P D vwCl [(h1, .inr (11, [.int (nI 0), .ref q, .int (nI 8), .int (nI 0), .int (nI 0), .int (nI 0), .int (nI 0), .long 0])), (q, .inr (1, [.int (nI 0), .ref z, .int (nI 0)])), (od, .inl (kA 5, 1, .inr (.inr (.inr (.inl (fun _ => 0)))))), (h0, .inr (7, [.ref a, .int (nI 0), .int (nI 8), .int (nI 0), .int (nI 0), .int (nI 0), .int (nI 0)])), (a, .inl (kA 2, 4, .inr (.inr (.inr (.inr (fun _ => none)))))), (o, .inl (kA 4, 1, .inr (.inl (fun _ => 0))))] H := hP
    have hD : va_D A [(h1, .inr (11, [.int (nI 0), .ref q, .int (nI 8), .int (nI 0), .int (nI 0), .int (nI 0), .int (nI 0), .long 0])), (q, .inr (1, [.int (nI 0), .ref z, .int (nI 0)])), (od, .inl (kA 5, 1, .inr (.inr (.inr (.inl (fun _ => 0)))))), (h0, .inr (7, [.ref a, .int (nI 0), .int (nI 8), .int (nI 0), .int (nI 0), .int (nI 0), .int (nI 0)])), (a, .inl (kA 2, 4, .inr (.inr (.inr (.inr (fun _ => none)))))), (o, .inl (kA 4, 1, .inr (.inl (fun _ => 0))))] := hD
    refine lv_istore (lv' := [(6, .int (nI 1)), (5, .int (nI 0)), (4, .ref od), (3, .ref o), (2, .ref h1), (1, .ref h0), (0, .ref b)]) hx hb dL_law_539 hl (by decide) rfl (fun ls hl => ?_)
    refine lv_aload_n hx hb dL_law_541 rfl (lv_at hl 4 rfl) ?_
    refine lv_aload_n hx hb dL_law_542 rfl (lv_at hl 6 rfl) ?_
    refine lv_iload hx hb dL_law_543 (lv_at hl 1 rfl) ?_
    refine lv_iconst (v := nI 1) hx hb dL_law_545 (by decide) ?_
    refine lv_iadd hx hb dL_law_546 ?_
    rw [show nI 0 + nI 1 = nI 1 from by decide]
    refine va_sld hx hb hX hbl hbA hS (vp_in_nI (n := 1) (by decide) (by decide)) dL_law_547 ?_
    rw [nI_clamp (n := 1) (by decide)]
    refine lv_aload_n hx hb dL_law_548 rfl (lv_at hl 6 rfl) ?_
    refine lv_iload hx hb dL_law_549 (lv_at hl 1 rfl) ?_
    refine lv_iconst (v := nI 2) hx hb dL_law_551 (by decide) ?_
    refine lv_iadd hx hb dL_law_552 ?_
    rw [show nI 0 + nI 2 = nI 2 from by decide]
    refine va_sld hx hb hX hbl hbA hS (vp_in_nI (n := 2) (by decide) (by decide)) dL_law_553 ?_
    rw [nI_clamp (n := 2) (by decide)]
    refine lv_aload_n hx hb dL_law_554 rfl (lv_at hl 6 rfl) ?_
    refine lv_iload hx hb dL_law_555 (lv_at hl 1 rfl) ?_
    refine lv_iconst (v := nI 3) hx hb dL_law_557 (by decide) ?_
    refine lv_iadd hx hb dL_law_558 ?_
    rw [show nI 0 + nI 3 = nI 3 from by decide]
    refine va_sld hx hb hX hbl hbA hS (vp_in_nI (n := 3) (by decide) (by decide)) dL_law_559 ?_
    rw [nI_clamp (n := 3) (by decide)]
    refine lv_if_eq (tgt := 567) hx hb dL_law_560 (by decide) (fun c560 => ?_) (fun c560 => ?_)
    ·
      refine lv_iconst (v := nI 0) hx hb dL_law_567 (by decide) ?_
      have hF := va_free (wc := [(h1, .inr (11, [.int (nI 0), .ref q, .int (nI 8), .int (nI 0), .int (nI 0), .int (nI 0), .int (nI 0), .long 0])), (q, .inr (1, [.int (nI 0), .ref z, .int (nI 0)]))]) hD hS hA [0, 1] rfl
      refine va_calli (va_runV (As := [.int (xs 1), .int (xs 2), .int (nI 0)]) (rest := []) ⟨hx, hb, hml, hown, hts⟩ (c_X10_weak_e l D kA z h1 q (nI 0) (xs 1) (xs 2) (nI 0)  _) (cwV 3 hts h_law_16 rfl rfl rfl (by decide +kernel) ⟨Nat.le_of_ble_eq_true rfl, Nat.le_of_ble_eq_true rfl⟩) (fPv hK hP hD hS hG hF [0, 1] (by decide) rfl 0 11 rfl rfl rfl) rfl rfl hl.1 rfl (lv_room (Nat.le_of_ble_eq_true rfl)) dL_law_568 ⟨Nat.le_of_ble_eq_true rfl, Nat.le_of_ble_eq_true rfl⟩) hS (fun q _ h => hF q h) hF (fun r_2 w1 t H locs ht hvm hw hB hz1 hk1 hS => ?_)
      obtain ⟨hP, hD⟩ := fJ (wr := [(od, .inl (kA 5, 1, .inr (.inr (.inr (.inl (fun _ => 0)))))), (h0, .inr (7, [.ref a, .int (nI 0), .int (nI 8), .int (nI 0), .int (nI 0), .int (nI 0), .int (nI 0)])), (a, .inl (kA 2, 4, .inr (.inr (.inr (.inr (fun _ => none)))))), (o, .inl (kA 4, 1, .inr (.inl (fun _ => 0))))]) hP hD [0, 1] [2, 3, 4, 5] rfl rfl (by decide) (by decide) hk1 hF ht hB
      try dsimp only at hw
      subst hw
      have hP : va_P D vwCl [(od, .inl (kA 5, 1, .inr (.inr (.inr (.inl (fun _ => 0)))))), (h0, .inr (7, [.ref a, .int (nI 0), .int (nI 8), .int (nI 0), .int (nI 0), .int (nI 0), .int (nI 0)])), (a, .inl (kA 2, 4, .inr (.inr (.inr (.inr (fun _ => none)))))), (o, .inl (kA 4, 1, .inr (.inl (fun _ => 0)))), (h1, .inr (11, [.int (nI 1), .ref q, .int (nI 8), .int (nI 0), .int (nI 0), .int (nI 0), .int (nI 0), .long 0])), (q, .inr (1, [.int (nI 0), .ref z, .int (nI 0)]))] H := hP
      have hD : va_D A [(od, .inl (kA 5, 1, .inr (.inr (.inr (.inl (fun _ => 0)))))), (h0, .inr (7, [.ref a, .int (nI 0), .int (nI 8), .int (nI 0), .int (nI 0), .int (nI 0), .int (nI 0)])), (a, .inl (kA 2, 4, .inr (.inr (.inr (.inr (fun _ => none)))))), (o, .inl (kA 4, 1, .inr (.inl (fun _ => 0)))), (h1, .inr (11, [.int (nI 1), .ref q, .int (nI 8), .int (nI 0), .int (nI 0), .int (nI 0), .int (nI 0), .long 0])), (q, .inr (1, [.int (nI 0), .ref z, .int (nI 0)]))] := hD
      refine lv_istore (lv' := [(7, .int r_2), (6, .int (nI 1)), (5, .int (nI 0)), (4, .ref od), (3, .ref o), (2, .ref h1), (1, .ref h0), (0, .ref b)]) hx hb dL_law_571 hl (by decide) rfl (fun ls hl => ?_)
      refine lv_aload_n hx hb dL_law_573 rfl (lv_at hl 5 rfl) ?_
      have hF := va_free (wc := [(h1, .inr (11, [.int (nI 1), .ref q, .int (nI 8), .int (nI 0), .int (nI 0), .int (nI 0), .int (nI 0), .long 0]))]) hD hS hA [4] rfl
      refine va_calli (va_runV (As := []) (rest := []) ⟨hx, hb, hml, hown, hts⟩ (c_X10_thrown l D kA z h1 q (nI 1) (nI 8) (nI 0) (nI 0) (nI 0) (nI 0) 0  _) (cwV 0 hts h_law_2 rfl rfl rfl (by decide +kernel) ⟨Nat.le_of_ble_eq_true rfl, Nat.le_of_ble_eq_true rfl⟩) (fPv hK hP hD hS hG hF [4] (by decide) rfl 4 11 rfl rfl rfl) rfl rfl hl.1 rfl (lv_room (Nat.le_of_ble_eq_true rfl)) dL_law_574 ⟨Nat.le_of_ble_eq_true rfl, Nat.le_of_ble_eq_true rfl⟩) hS (fun q _ h => hF q h) hF (fun r_3 w1 t H locs ht hvm hw hB hz1 hk1 hS => ?_)
      obtain ⟨hP, hD⟩ := fJ (wr := [(od, .inl (kA 5, 1, .inr (.inr (.inr (.inl (fun _ => 0)))))), (h0, .inr (7, [.ref a, .int (nI 0), .int (nI 8), .int (nI 0), .int (nI 0), .int (nI 0), .int (nI 0)])), (a, .inl (kA 2, 4, .inr (.inr (.inr (.inr (fun _ => none)))))), (o, .inl (kA 4, 1, .inr (.inl (fun _ => 0)))), (q, .inr (1, [.int (nI 0), .ref z, .int (nI 0)]))]) hP hD [4] [0, 1, 2, 3, 5] rfl rfl (by decide) (by decide) hk1 hF ht hB
      try dsimp only at hw
      obtain ⟨rfl, e_2⟩ := hw
      replace e_2 := e_2.symm
      subst e_2
      have hP : va_P D vwCl [(od, .inl (kA 5, 1, .inr (.inr (.inr (.inl (fun _ => 0)))))), (h0, .inr (7, [.ref a, .int (nI 0), .int (nI 8), .int (nI 0), .int (nI 0), .int (nI 0), .int (nI 0)])), (a, .inl (kA 2, 4, .inr (.inr (.inr (.inr (fun _ => none)))))), (o, .inl (kA 4, 1, .inr (.inl (fun _ => 0)))), (q, .inr (1, [.int (nI 0), .ref z, .int (nI 0)])), (h1, .inr (11, [.int (nI 1), .ref q, .int (nI 8), .int (nI 0), .int (nI 0), .int (nI 0), .int (nI 0), .long 0]))] H := hP
      have hD : va_D A [(od, .inl (kA 5, 1, .inr (.inr (.inr (.inl (fun _ => 0)))))), (h0, .inr (7, [.ref a, .int (nI 0), .int (nI 8), .int (nI 0), .int (nI 0), .int (nI 0), .int (nI 0)])), (a, .inl (kA 2, 4, .inr (.inr (.inr (.inr (fun _ => none)))))), (o, .inl (kA 4, 1, .inr (.inl (fun _ => 0)))), (q, .inr (1, [.int (nI 0), .ref z, .int (nI 0)])), (h1, .inr (11, [.int (nI 1), .ref q, .int (nI 8), .int (nI 0), .int (nI 0), .int (nI 0), .int (nI 0), .long 0]))] := hD
      refine lv_iload hx hb dL_law_577 (lv_at hl 1 rfl) ?_
      refine lv_icmp_eq (tgt := 584) hx hb dL_law_579 (by decide) (fun _ => ?_) (fun c579 => absurd (by decide) c579)
      refine lv_iload hx hb dL_law_584 (lv_at hl 1 rfl) ?_
      refine lv_if_ne (tgt := 608) hx hb dL_law_586 (by decide) (fun _ => ?_) (fun c586 => absurd c586 (by decide))
      refine lv_goto (tgt := 1775) hx hb dL_law_608 (by decide) ?_
      subst hAe
      exact law_tail C0 hS (lv_sub hl [2, 7] rfl) (Nat.le_of_ble_eq_true rfl) (Nat.le_of_ble_eq_true rfl)
    ·
      refine lv_iconst (v := nI 1) hx hb dL_law_563 (by decide) ?_
      refine lv_goto (tgt := 568) hx hb dL_law_564 (by decide) ?_
      have hF := va_free (wc := [(h1, .inr (11, [.int (nI 0), .ref q, .int (nI 8), .int (nI 0), .int (nI 0), .int (nI 0), .int (nI 0), .long 0])), (q, .inr (1, [.int (nI 0), .ref z, .int (nI 0)]))]) hD hS hA [0, 1] rfl
      refine va_calli (va_runV (As := [.int (xs 1), .int (xs 2), .int (nI 1)]) (rest := []) ⟨hx, hb, hml, hown, hts⟩ (c_X10_weak_e l D kA z h1 q (nI 0) (xs 1) (xs 2) (nI 1)  _) (cwV 3 hts h_law_16 rfl rfl rfl (by decide +kernel) ⟨Nat.le_of_ble_eq_true rfl, Nat.le_of_ble_eq_true rfl⟩) (fPv hK hP hD hS hG hF [0, 1] (by decide) rfl 0 11 rfl rfl rfl) rfl rfl hl.1 rfl (lv_room (Nat.le_of_ble_eq_true rfl)) dL_law_568 ⟨Nat.le_of_ble_eq_true rfl, Nat.le_of_ble_eq_true rfl⟩) hS (fun q _ h => hF q h) hF (fun r_4 w1 t H locs ht hvm hw hB hz1 hk1 hS => ?_)
      obtain ⟨hP, hD⟩ := fJ (wr := [(od, .inl (kA 5, 1, .inr (.inr (.inr (.inl (fun _ => 0)))))), (h0, .inr (7, [.ref a, .int (nI 0), .int (nI 8), .int (nI 0), .int (nI 0), .int (nI 0), .int (nI 0)])), (a, .inl (kA 2, 4, .inr (.inr (.inr (.inr (fun _ => none)))))), (o, .inl (kA 4, 1, .inr (.inl (fun _ => 0))))]) hP hD [0, 1] [2, 3, 4, 5] rfl rfl (by decide) (by decide) hk1 hF ht hB
      try dsimp only at hw
      subst hw
      have hP : va_P D vwCl [(od, .inl (kA 5, 1, .inr (.inr (.inr (.inl (fun _ => 0)))))), (h0, .inr (7, [.ref a, .int (nI 0), .int (nI 8), .int (nI 0), .int (nI 0), .int (nI 0), .int (nI 0)])), (a, .inl (kA 2, 4, .inr (.inr (.inr (.inr (fun _ => none)))))), (o, .inl (kA 4, 1, .inr (.inl (fun _ => 0)))), (h1, .inr (11, [.int (nI 1), .ref q, .int (nI 8), .int (nI 0), .int (nI 0), .int (nI 0), .int (nI 0), .long 0])), (q, .inr (1, [.int (nI 0), .ref z, .int (nI 0)]))] H := hP
      have hD : va_D A [(od, .inl (kA 5, 1, .inr (.inr (.inr (.inl (fun _ => 0)))))), (h0, .inr (7, [.ref a, .int (nI 0), .int (nI 8), .int (nI 0), .int (nI 0), .int (nI 0), .int (nI 0)])), (a, .inl (kA 2, 4, .inr (.inr (.inr (.inr (fun _ => none)))))), (o, .inl (kA 4, 1, .inr (.inl (fun _ => 0)))), (h1, .inr (11, [.int (nI 1), .ref q, .int (nI 8), .int (nI 0), .int (nI 0), .int (nI 0), .int (nI 0), .long 0])), (q, .inr (1, [.int (nI 0), .ref z, .int (nI 0)]))] := hD
      refine lv_istore (lv' := [(7, .int r_4), (6, .int (nI 1)), (5, .int (nI 0)), (4, .ref od), (3, .ref o), (2, .ref h1), (1, .ref h0), (0, .ref b)]) hx hb dL_law_571 hl (by decide) rfl (fun ls hl => ?_)
      refine lv_aload_n hx hb dL_law_573 rfl (lv_at hl 5 rfl) ?_
      have hF := va_free (wc := [(h1, .inr (11, [.int (nI 1), .ref q, .int (nI 8), .int (nI 0), .int (nI 0), .int (nI 0), .int (nI 0), .long 0]))]) hD hS hA [4] rfl
      refine va_calli (va_runV (As := []) (rest := []) ⟨hx, hb, hml, hown, hts⟩ (c_X10_thrown l D kA z h1 q (nI 1) (nI 8) (nI 0) (nI 0) (nI 0) (nI 0) 0  _) (cwV 0 hts h_law_2 rfl rfl rfl (by decide +kernel) ⟨Nat.le_of_ble_eq_true rfl, Nat.le_of_ble_eq_true rfl⟩) (fPv hK hP hD hS hG hF [4] (by decide) rfl 4 11 rfl rfl rfl) rfl rfl hl.1 rfl (lv_room (Nat.le_of_ble_eq_true rfl)) dL_law_574 ⟨Nat.le_of_ble_eq_true rfl, Nat.le_of_ble_eq_true rfl⟩) hS (fun q _ h => hF q h) hF (fun r_5 w1 t H locs ht hvm hw hB hz1 hk1 hS => ?_)
      obtain ⟨hP, hD⟩ := fJ (wr := [(od, .inl (kA 5, 1, .inr (.inr (.inr (.inl (fun _ => 0)))))), (h0, .inr (7, [.ref a, .int (nI 0), .int (nI 8), .int (nI 0), .int (nI 0), .int (nI 0), .int (nI 0)])), (a, .inl (kA 2, 4, .inr (.inr (.inr (.inr (fun _ => none)))))), (o, .inl (kA 4, 1, .inr (.inl (fun _ => 0)))), (q, .inr (1, [.int (nI 0), .ref z, .int (nI 0)]))]) hP hD [4] [0, 1, 2, 3, 5] rfl rfl (by decide) (by decide) hk1 hF ht hB
      try dsimp only at hw
      obtain ⟨rfl, e_3⟩ := hw
      replace e_3 := e_3.symm
      subst e_3
      have hP : va_P D vwCl [(od, .inl (kA 5, 1, .inr (.inr (.inr (.inl (fun _ => 0)))))), (h0, .inr (7, [.ref a, .int (nI 0), .int (nI 8), .int (nI 0), .int (nI 0), .int (nI 0), .int (nI 0)])), (a, .inl (kA 2, 4, .inr (.inr (.inr (.inr (fun _ => none)))))), (o, .inl (kA 4, 1, .inr (.inl (fun _ => 0)))), (q, .inr (1, [.int (nI 0), .ref z, .int (nI 0)])), (h1, .inr (11, [.int (nI 1), .ref q, .int (nI 8), .int (nI 0), .int (nI 0), .int (nI 0), .int (nI 0), .long 0]))] H := hP
      have hD : va_D A [(od, .inl (kA 5, 1, .inr (.inr (.inr (.inl (fun _ => 0)))))), (h0, .inr (7, [.ref a, .int (nI 0), .int (nI 8), .int (nI 0), .int (nI 0), .int (nI 0), .int (nI 0)])), (a, .inl (kA 2, 4, .inr (.inr (.inr (.inr (fun _ => none)))))), (o, .inl (kA 4, 1, .inr (.inl (fun _ => 0)))), (q, .inr (1, [.int (nI 0), .ref z, .int (nI 0)])), (h1, .inr (11, [.int (nI 1), .ref q, .int (nI 8), .int (nI 0), .int (nI 0), .int (nI 0), .int (nI 0), .long 0]))] := hD
      refine lv_iload hx hb dL_law_577 (lv_at hl 1 rfl) ?_
      refine lv_icmp_eq (tgt := 584) hx hb dL_law_579 (by decide) (fun _ => ?_) (fun c579 => absurd (by decide) c579)
      refine lv_iload hx hb dL_law_584 (lv_at hl 1 rfl) ?_
      refine lv_if_ne (tgt := 608) hx hb dL_law_586 (by decide) (fun _ => ?_) (fun c586 => absurd c586 (by decide))
      refine lv_goto (tgt := 1775) hx hb dL_law_608 (by decide) ?_
      subst hAe
      exact law_tail C0 hS (lv_sub hl [2, 7] rfl) (Nat.le_of_ble_eq_true rfl) (Nat.le_of_ble_eq_true rfl)
  ·
    refine lv_iconst (v := nI 1) hx hb dL_law_530 (by decide) ?_
    refine lv_goto (tgt := 535) hx hb dL_law_531 (by decide) ?_
    refine lv_aload_n hx hb dL_law_535 rfl (lv_at hl 2 rfl) ?_
    have hF := va_free (wc := [(h0, .inr (7, [.ref a, .int (nI 0), .int (nI 8), .int (nI 0), .int (nI 0), .int (nI 0), .int (nI 0)])), (a, .inl (kA 2, 4, .inr (.inr (.inr (.inr (fun _ => none)))))), (o, .inl (kA 4, 1, .inr (.inl (fun _ => 0))))]) hD hS hA [0, 1, 4] rfl
    refine va_calli (vx_runSW (As := [.ref h0, .int (xs 1), .int (xs 2), .int (nI 1), .ref o]) (rest := []) ⟨hx, hb, hml, hown, hts⟩ (c_L_weak_e l D kA z hfl h0 a o (xs 1) (xs 2) (nI 1) (fun _ => 0)  _) (vx_cwSW 5 hts h_law_15 rfl rfl rfl (by decide +kernel) ⟨Nat.le_of_ble_eq_true rfl, Nat.le_of_ble_eq_true rfl⟩) (fPs hK hP hD hS hG hF [0, 1, 4] (by decide) rfl) rfl rfl hl.1 rfl (lv_room (Nat.le_of_ble_eq_true rfl)) dL_law_536 ⟨Nat.le_of_ble_eq_true rfl, Nat.le_of_ble_eq_true rfl⟩) hS (fun q _ h => hF q h) hF (fun r_6 w1 t H locs ht hvm hw hB hz1 hk1 hS => ?_)
    obtain ⟨hP, hD⟩ := fJ (wr := [(h1, .inr (11, [.int (nI 0), .ref q, .int (nI 8), .int (nI 0), .int (nI 0), .int (nI 0), .int (nI 0), .long 0])), (q, .inr (1, [.int (nI 0), .ref z, .int (nI 0)])), (od, .inl (kA 5, 1, .inr (.inr (.inr (.inl (fun _ => 0))))))]) hP hD [0, 1, 4] [2, 3, 5] rfl rfl (by decide) (by decide) hk1 hF ht hB
    try dsimp only at hw
    obtain ⟨rfl, e_4⟩ := hw
    replace e_4 := e_4.symm
    subst e_4
    have hP : va_P D vwCl [(h1, .inr (11, [.int (nI 0), .ref q, .int (nI 8), .int (nI 0), .int (nI 0), .int (nI 0), .int (nI 0), .long 0])), (q, .inr (1, [.int (nI 0), .ref z, .int (nI 0)])), (od, .inl (kA 5, 1, .inr (.inr (.inr (.inl (fun _ => 0)))))), (h0, .inr (7, [.ref a, .int (nI 0), .int (nI 8), .int (nI 0), .int (nI 0), .int (nI 0), .int (nI 0)])), (a, .inl (kA 2, 4, .inr (.inr (.inr (.inr (fun _ => none)))))), (o, .inl (kA 4, 1, .inr (.inl (fun _ => 0))))] H := hP
    have hD : va_D A [(h1, .inr (11, [.int (nI 0), .ref q, .int (nI 8), .int (nI 0), .int (nI 0), .int (nI 0), .int (nI 0), .long 0])), (q, .inr (1, [.int (nI 0), .ref z, .int (nI 0)])), (od, .inl (kA 5, 1, .inr (.inr (.inr (.inl (fun _ => 0)))))), (h0, .inr (7, [.ref a, .int (nI 0), .int (nI 8), .int (nI 0), .int (nI 0), .int (nI 0), .int (nI 0)])), (a, .inl (kA 2, 4, .inr (.inr (.inr (.inr (fun _ => none)))))), (o, .inl (kA 4, 1, .inr (.inl (fun _ => 0))))] := hD
    refine lv_istore (lv' := [(6, .int (nI 1)), (5, .int (nI 0)), (4, .ref od), (3, .ref o), (2, .ref h1), (1, .ref h0), (0, .ref b)]) hx hb dL_law_539 hl (by decide) rfl (fun ls hl => ?_)
    refine lv_aload_n hx hb dL_law_541 rfl (lv_at hl 4 rfl) ?_
    refine lv_aload_n hx hb dL_law_542 rfl (lv_at hl 6 rfl) ?_
    refine lv_iload hx hb dL_law_543 (lv_at hl 1 rfl) ?_
    refine lv_iconst (v := nI 1) hx hb dL_law_545 (by decide) ?_
    refine lv_iadd hx hb dL_law_546 ?_
    rw [show nI 0 + nI 1 = nI 1 from by decide]
    refine va_sld hx hb hX hbl hbA hS (vp_in_nI (n := 1) (by decide) (by decide)) dL_law_547 ?_
    rw [nI_clamp (n := 1) (by decide)]
    refine lv_aload_n hx hb dL_law_548 rfl (lv_at hl 6 rfl) ?_
    refine lv_iload hx hb dL_law_549 (lv_at hl 1 rfl) ?_
    refine lv_iconst (v := nI 2) hx hb dL_law_551 (by decide) ?_
    refine lv_iadd hx hb dL_law_552 ?_
    rw [show nI 0 + nI 2 = nI 2 from by decide]
    refine va_sld hx hb hX hbl hbA hS (vp_in_nI (n := 2) (by decide) (by decide)) dL_law_553 ?_
    rw [nI_clamp (n := 2) (by decide)]
    refine lv_aload_n hx hb dL_law_554 rfl (lv_at hl 6 rfl) ?_
    refine lv_iload hx hb dL_law_555 (lv_at hl 1 rfl) ?_
    refine lv_iconst (v := nI 3) hx hb dL_law_557 (by decide) ?_
    refine lv_iadd hx hb dL_law_558 ?_
    rw [show nI 0 + nI 3 = nI 3 from by decide]
    refine va_sld hx hb hX hbl hbA hS (vp_in_nI (n := 3) (by decide) (by decide)) dL_law_559 ?_
    rw [nI_clamp (n := 3) (by decide)]
    refine lv_if_eq (tgt := 567) hx hb dL_law_560 (by decide) (fun c560 => ?_) (fun c560 => ?_)
    ·
      refine lv_iconst (v := nI 0) hx hb dL_law_567 (by decide) ?_
      have hF := va_free (wc := [(h1, .inr (11, [.int (nI 0), .ref q, .int (nI 8), .int (nI 0), .int (nI 0), .int (nI 0), .int (nI 0), .long 0])), (q, .inr (1, [.int (nI 0), .ref z, .int (nI 0)]))]) hD hS hA [0, 1] rfl
      refine va_calli (va_runV (As := [.int (xs 1), .int (xs 2), .int (nI 0)]) (rest := []) ⟨hx, hb, hml, hown, hts⟩ (c_X10_weak_e l D kA z h1 q (nI 0) (xs 1) (xs 2) (nI 0)  _) (cwV 3 hts h_law_16 rfl rfl rfl (by decide +kernel) ⟨Nat.le_of_ble_eq_true rfl, Nat.le_of_ble_eq_true rfl⟩) (fPv hK hP hD hS hG hF [0, 1] (by decide) rfl 0 11 rfl rfl rfl) rfl rfl hl.1 rfl (lv_room (Nat.le_of_ble_eq_true rfl)) dL_law_568 ⟨Nat.le_of_ble_eq_true rfl, Nat.le_of_ble_eq_true rfl⟩) hS (fun q _ h => hF q h) hF (fun r_7 w1 t H locs ht hvm hw hB hz1 hk1 hS => ?_)
      obtain ⟨hP, hD⟩ := fJ (wr := [(od, .inl (kA 5, 1, .inr (.inr (.inr (.inl (fun _ => 0)))))), (h0, .inr (7, [.ref a, .int (nI 0), .int (nI 8), .int (nI 0), .int (nI 0), .int (nI 0), .int (nI 0)])), (a, .inl (kA 2, 4, .inr (.inr (.inr (.inr (fun _ => none)))))), (o, .inl (kA 4, 1, .inr (.inl (fun _ => 0))))]) hP hD [0, 1] [2, 3, 4, 5] rfl rfl (by decide) (by decide) hk1 hF ht hB
      try dsimp only at hw
      subst hw
      have hP : va_P D vwCl [(od, .inl (kA 5, 1, .inr (.inr (.inr (.inl (fun _ => 0)))))), (h0, .inr (7, [.ref a, .int (nI 0), .int (nI 8), .int (nI 0), .int (nI 0), .int (nI 0), .int (nI 0)])), (a, .inl (kA 2, 4, .inr (.inr (.inr (.inr (fun _ => none)))))), (o, .inl (kA 4, 1, .inr (.inl (fun _ => 0)))), (h1, .inr (11, [.int (nI 1), .ref q, .int (nI 8), .int (nI 0), .int (nI 0), .int (nI 0), .int (nI 0), .long 0])), (q, .inr (1, [.int (nI 0), .ref z, .int (nI 0)]))] H := hP
      have hD : va_D A [(od, .inl (kA 5, 1, .inr (.inr (.inr (.inl (fun _ => 0)))))), (h0, .inr (7, [.ref a, .int (nI 0), .int (nI 8), .int (nI 0), .int (nI 0), .int (nI 0), .int (nI 0)])), (a, .inl (kA 2, 4, .inr (.inr (.inr (.inr (fun _ => none)))))), (o, .inl (kA 4, 1, .inr (.inl (fun _ => 0)))), (h1, .inr (11, [.int (nI 1), .ref q, .int (nI 8), .int (nI 0), .int (nI 0), .int (nI 0), .int (nI 0), .long 0])), (q, .inr (1, [.int (nI 0), .ref z, .int (nI 0)]))] := hD
      refine lv_istore (lv' := [(7, .int r_7), (6, .int (nI 1)), (5, .int (nI 0)), (4, .ref od), (3, .ref o), (2, .ref h1), (1, .ref h0), (0, .ref b)]) hx hb dL_law_571 hl (by decide) rfl (fun ls hl => ?_)
      refine lv_aload_n hx hb dL_law_573 rfl (lv_at hl 5 rfl) ?_
      have hF := va_free (wc := [(h1, .inr (11, [.int (nI 1), .ref q, .int (nI 8), .int (nI 0), .int (nI 0), .int (nI 0), .int (nI 0), .long 0]))]) hD hS hA [4] rfl
      refine va_calli (va_runV (As := []) (rest := []) ⟨hx, hb, hml, hown, hts⟩ (c_X10_thrown l D kA z h1 q (nI 1) (nI 8) (nI 0) (nI 0) (nI 0) (nI 0) 0  _) (cwV 0 hts h_law_2 rfl rfl rfl (by decide +kernel) ⟨Nat.le_of_ble_eq_true rfl, Nat.le_of_ble_eq_true rfl⟩) (fPv hK hP hD hS hG hF [4] (by decide) rfl 4 11 rfl rfl rfl) rfl rfl hl.1 rfl (lv_room (Nat.le_of_ble_eq_true rfl)) dL_law_574 ⟨Nat.le_of_ble_eq_true rfl, Nat.le_of_ble_eq_true rfl⟩) hS (fun q _ h => hF q h) hF (fun r_8 w1 t H locs ht hvm hw hB hz1 hk1 hS => ?_)
      obtain ⟨hP, hD⟩ := fJ (wr := [(od, .inl (kA 5, 1, .inr (.inr (.inr (.inl (fun _ => 0)))))), (h0, .inr (7, [.ref a, .int (nI 0), .int (nI 8), .int (nI 0), .int (nI 0), .int (nI 0), .int (nI 0)])), (a, .inl (kA 2, 4, .inr (.inr (.inr (.inr (fun _ => none)))))), (o, .inl (kA 4, 1, .inr (.inl (fun _ => 0)))), (q, .inr (1, [.int (nI 0), .ref z, .int (nI 0)]))]) hP hD [4] [0, 1, 2, 3, 5] rfl rfl (by decide) (by decide) hk1 hF ht hB
      try dsimp only at hw
      obtain ⟨rfl, e_5⟩ := hw
      replace e_5 := e_5.symm
      subst e_5
      have hP : va_P D vwCl [(od, .inl (kA 5, 1, .inr (.inr (.inr (.inl (fun _ => 0)))))), (h0, .inr (7, [.ref a, .int (nI 0), .int (nI 8), .int (nI 0), .int (nI 0), .int (nI 0), .int (nI 0)])), (a, .inl (kA 2, 4, .inr (.inr (.inr (.inr (fun _ => none)))))), (o, .inl (kA 4, 1, .inr (.inl (fun _ => 0)))), (q, .inr (1, [.int (nI 0), .ref z, .int (nI 0)])), (h1, .inr (11, [.int (nI 1), .ref q, .int (nI 8), .int (nI 0), .int (nI 0), .int (nI 0), .int (nI 0), .long 0]))] H := hP
      have hD : va_D A [(od, .inl (kA 5, 1, .inr (.inr (.inr (.inl (fun _ => 0)))))), (h0, .inr (7, [.ref a, .int (nI 0), .int (nI 8), .int (nI 0), .int (nI 0), .int (nI 0), .int (nI 0)])), (a, .inl (kA 2, 4, .inr (.inr (.inr (.inr (fun _ => none)))))), (o, .inl (kA 4, 1, .inr (.inl (fun _ => 0)))), (q, .inr (1, [.int (nI 0), .ref z, .int (nI 0)])), (h1, .inr (11, [.int (nI 1), .ref q, .int (nI 8), .int (nI 0), .int (nI 0), .int (nI 0), .int (nI 0), .long 0]))] := hD
      refine lv_iload hx hb dL_law_577 (lv_at hl 1 rfl) ?_
      refine lv_icmp_eq (tgt := 584) hx hb dL_law_579 (by decide) (fun _ => ?_) (fun c579 => absurd (by decide) c579)
      refine lv_iload hx hb dL_law_584 (lv_at hl 1 rfl) ?_
      refine lv_if_ne (tgt := 608) hx hb dL_law_586 (by decide) (fun _ => ?_) (fun c586 => absurd c586 (by decide))
      refine lv_goto (tgt := 1775) hx hb dL_law_608 (by decide) ?_
      subst hAe
      exact law_tail C0 hS (lv_sub hl [2, 7] rfl) (Nat.le_of_ble_eq_true rfl) (Nat.le_of_ble_eq_true rfl)
    ·
      refine lv_iconst (v := nI 1) hx hb dL_law_563 (by decide) ?_
      refine lv_goto (tgt := 568) hx hb dL_law_564 (by decide) ?_
      have hF := va_free (wc := [(h1, .inr (11, [.int (nI 0), .ref q, .int (nI 8), .int (nI 0), .int (nI 0), .int (nI 0), .int (nI 0), .long 0])), (q, .inr (1, [.int (nI 0), .ref z, .int (nI 0)]))]) hD hS hA [0, 1] rfl
      refine va_calli (va_runV (As := [.int (xs 1), .int (xs 2), .int (nI 1)]) (rest := []) ⟨hx, hb, hml, hown, hts⟩ (c_X10_weak_e l D kA z h1 q (nI 0) (xs 1) (xs 2) (nI 1)  _) (cwV 3 hts h_law_16 rfl rfl rfl (by decide +kernel) ⟨Nat.le_of_ble_eq_true rfl, Nat.le_of_ble_eq_true rfl⟩) (fPv hK hP hD hS hG hF [0, 1] (by decide) rfl 0 11 rfl rfl rfl) rfl rfl hl.1 rfl (lv_room (Nat.le_of_ble_eq_true rfl)) dL_law_568 ⟨Nat.le_of_ble_eq_true rfl, Nat.le_of_ble_eq_true rfl⟩) hS (fun q _ h => hF q h) hF (fun r_9 w1 t H locs ht hvm hw hB hz1 hk1 hS => ?_)
      obtain ⟨hP, hD⟩ := fJ (wr := [(od, .inl (kA 5, 1, .inr (.inr (.inr (.inl (fun _ => 0)))))), (h0, .inr (7, [.ref a, .int (nI 0), .int (nI 8), .int (nI 0), .int (nI 0), .int (nI 0), .int (nI 0)])), (a, .inl (kA 2, 4, .inr (.inr (.inr (.inr (fun _ => none)))))), (o, .inl (kA 4, 1, .inr (.inl (fun _ => 0))))]) hP hD [0, 1] [2, 3, 4, 5] rfl rfl (by decide) (by decide) hk1 hF ht hB
      try dsimp only at hw
      subst hw
      have hP : va_P D vwCl [(od, .inl (kA 5, 1, .inr (.inr (.inr (.inl (fun _ => 0)))))), (h0, .inr (7, [.ref a, .int (nI 0), .int (nI 8), .int (nI 0), .int (nI 0), .int (nI 0), .int (nI 0)])), (a, .inl (kA 2, 4, .inr (.inr (.inr (.inr (fun _ => none)))))), (o, .inl (kA 4, 1, .inr (.inl (fun _ => 0)))), (h1, .inr (11, [.int (nI 1), .ref q, .int (nI 8), .int (nI 0), .int (nI 0), .int (nI 0), .int (nI 0), .long 0])), (q, .inr (1, [.int (nI 0), .ref z, .int (nI 0)]))] H := hP
      have hD : va_D A [(od, .inl (kA 5, 1, .inr (.inr (.inr (.inl (fun _ => 0)))))), (h0, .inr (7, [.ref a, .int (nI 0), .int (nI 8), .int (nI 0), .int (nI 0), .int (nI 0), .int (nI 0)])), (a, .inl (kA 2, 4, .inr (.inr (.inr (.inr (fun _ => none)))))), (o, .inl (kA 4, 1, .inr (.inl (fun _ => 0)))), (h1, .inr (11, [.int (nI 1), .ref q, .int (nI 8), .int (nI 0), .int (nI 0), .int (nI 0), .int (nI 0), .long 0])), (q, .inr (1, [.int (nI 0), .ref z, .int (nI 0)]))] := hD
      refine lv_istore (lv' := [(7, .int r_9), (6, .int (nI 1)), (5, .int (nI 0)), (4, .ref od), (3, .ref o), (2, .ref h1), (1, .ref h0), (0, .ref b)]) hx hb dL_law_571 hl (by decide) rfl (fun ls hl => ?_)
      refine lv_aload_n hx hb dL_law_573 rfl (lv_at hl 5 rfl) ?_
      have hF := va_free (wc := [(h1, .inr (11, [.int (nI 1), .ref q, .int (nI 8), .int (nI 0), .int (nI 0), .int (nI 0), .int (nI 0), .long 0]))]) hD hS hA [4] rfl
      refine va_calli (va_runV (As := []) (rest := []) ⟨hx, hb, hml, hown, hts⟩ (c_X10_thrown l D kA z h1 q (nI 1) (nI 8) (nI 0) (nI 0) (nI 0) (nI 0) 0  _) (cwV 0 hts h_law_2 rfl rfl rfl (by decide +kernel) ⟨Nat.le_of_ble_eq_true rfl, Nat.le_of_ble_eq_true rfl⟩) (fPv hK hP hD hS hG hF [4] (by decide) rfl 4 11 rfl rfl rfl) rfl rfl hl.1 rfl (lv_room (Nat.le_of_ble_eq_true rfl)) dL_law_574 ⟨Nat.le_of_ble_eq_true rfl, Nat.le_of_ble_eq_true rfl⟩) hS (fun q _ h => hF q h) hF (fun r_10 w1 t H locs ht hvm hw hB hz1 hk1 hS => ?_)
      obtain ⟨hP, hD⟩ := fJ (wr := [(od, .inl (kA 5, 1, .inr (.inr (.inr (.inl (fun _ => 0)))))), (h0, .inr (7, [.ref a, .int (nI 0), .int (nI 8), .int (nI 0), .int (nI 0), .int (nI 0), .int (nI 0)])), (a, .inl (kA 2, 4, .inr (.inr (.inr (.inr (fun _ => none)))))), (o, .inl (kA 4, 1, .inr (.inl (fun _ => 0)))), (q, .inr (1, [.int (nI 0), .ref z, .int (nI 0)]))]) hP hD [4] [0, 1, 2, 3, 5] rfl rfl (by decide) (by decide) hk1 hF ht hB
      try dsimp only at hw
      obtain ⟨rfl, e_6⟩ := hw
      replace e_6 := e_6.symm
      subst e_6
      have hP : va_P D vwCl [(od, .inl (kA 5, 1, .inr (.inr (.inr (.inl (fun _ => 0)))))), (h0, .inr (7, [.ref a, .int (nI 0), .int (nI 8), .int (nI 0), .int (nI 0), .int (nI 0), .int (nI 0)])), (a, .inl (kA 2, 4, .inr (.inr (.inr (.inr (fun _ => none)))))), (o, .inl (kA 4, 1, .inr (.inl (fun _ => 0)))), (q, .inr (1, [.int (nI 0), .ref z, .int (nI 0)])), (h1, .inr (11, [.int (nI 1), .ref q, .int (nI 8), .int (nI 0), .int (nI 0), .int (nI 0), .int (nI 0), .long 0]))] H := hP
      have hD : va_D A [(od, .inl (kA 5, 1, .inr (.inr (.inr (.inl (fun _ => 0)))))), (h0, .inr (7, [.ref a, .int (nI 0), .int (nI 8), .int (nI 0), .int (nI 0), .int (nI 0), .int (nI 0)])), (a, .inl (kA 2, 4, .inr (.inr (.inr (.inr (fun _ => none)))))), (o, .inl (kA 4, 1, .inr (.inl (fun _ => 0)))), (q, .inr (1, [.int (nI 0), .ref z, .int (nI 0)])), (h1, .inr (11, [.int (nI 1), .ref q, .int (nI 8), .int (nI 0), .int (nI 0), .int (nI 0), .int (nI 0), .long 0]))] := hD
      refine lv_iload hx hb dL_law_577 (lv_at hl 1 rfl) ?_
      refine lv_icmp_eq (tgt := 584) hx hb dL_law_579 (by decide) (fun _ => ?_) (fun c579 => absurd (by decide) c579)
      refine lv_iload hx hb dL_law_584 (lv_at hl 1 rfl) ?_
      refine lv_if_ne (tgt := 608) hx hb dL_law_586 (by decide) (fun _ => ?_) (fun c586 => absurd c586 (by decide))
      refine lv_goto (tgt := 1775) hx hb dL_law_608 (by decide) ?_
      subst hAe
      exact law_tail C0 hS (lv_sub hl [2, 7] rfl) (Nat.le_of_ble_eq_true rfl) (Nat.le_of_ble_eq_true rfl)

set_option maxHeartbeats 16000000 in
set_option maxRecDepth 100000 in
theorem law_case6 {p : Program} {e : Env} {s : State} {m : MethodId} {below : List Frame} {meth : Method} {c : Code} {l : Launch} {b : Nat} {xs : Nat → Int32} (hfl : l.stackTraces = false) (C0 : lw_At p s m meth c b 6 xs) (hts : ∀ w ∈ wq_law, w.before #[Value.ref b] s = true) {D : va_G} {kA : Nat → ClassId} {z : Nat} (hK : va_K D vwCl (tyL kA) s) (hG : gS z (fun q : Nat => s.heap.size ≤ q) s s.heap) {h0 a h1 q o od : Nat} {H : Heap} {locs : List Loc} {ls : Array Slot} (hP : va_P D vwCl [(h0, .inr (7, [.ref a, .int (nI 0), .int (nI 8), .int (nI 0), .int (nI 0), .int (nI 0), .int (nI 0)])), (a, .inl (kA 2, 4, .inr (.inr (.inr (.inr (fun _ => none)))))), (h1, .inr (11, [.int (nI 0), .ref q, .int (nI 8), .int (nI 0), .int (nI 0), .int (nI 0), .int (nI 0), .long 0])), (q, .inr (1, [.int (nI 0), .ref z, .int (nI 0)])), (o, .inl (kA 4, 1, .inr (.inl (fun _ => 0)))), (od, .inl (kA 5, 1, .inr (.inr (.inr (.inl (fun _ => 0))))))] H) (hD : va_D (fun q : Nat => s.heap.size ≤ q) [(h0, .inr (7, [.ref a, .int (nI 0), .int (nI 8), .int (nI 0), .int (nI 0), .int (nI 0), .int (nI 0)])), (a, .inl (kA 2, 4, .inr (.inr (.inr (.inr (fun _ => none)))))), (h1, .inr (11, [.int (nI 0), .ref q, .int (nI 8), .int (nI 0), .int (nI 0), .int (nI 0), .int (nI 0), .long 0])), (q, .inr (1, [.int (nI 0), .ref z, .int (nI 0)])), (o, .inl (kA 4, 1, .inr (.inl (fun _ => 0)))), (od, .inl (kA 5, 1, .inr (.inr (.inr (.inl (fun _ => 0))))))]) (hS : va_S (fun q : Nat => s.heap.size ≤ q) s.heap H locs) (hl : lv_has ls 9 [(5, .int (nI 0)), (4, .ref od), (3, .ref o), (2, .ref h1), (1, .ref h0), (0, .ref b)]) : W p l e room_1 s m #[Value.ref b] below meth c H locs 6 24 (lw_Z below #[Value.ref b] s) (F0 m 611 ls []) := by
  obtain ⟨hx, hb, hr, hml, hown, hts0, hX, hbl, hlocks, hgv⟩ := id C0
  have hA : ∀ q : Nat, s.heap.size ≤ q → (fun q : Nat => s.heap.size ≤ q) q := fun _ h => h
  have hbA : ¬ (fun q : Nat => s.heap.size ≤ q) b := Nat.not_le.mpr hbl
  generalize hAe : (fun q : Nat => s.heap.size ≤ q) = A at hD hS hA hbA hG
  refine lv_aload_n hx hb dL_law_611 rfl (lv_at hl 4 rfl) ?_
  refine lv_aload_n hx hb dL_law_612 rfl (lv_at hl 5 rfl) ?_
  refine lv_iload hx hb dL_law_613 (lv_at hl 0 rfl) ?_
  refine lv_iconst (v := nI 1) hx hb dL_law_615 (by decide) ?_
  refine lv_iadd hx hb dL_law_616 ?_
  rw [show nI 0 + nI 1 = nI 1 from by decide]
  refine va_sld hx hb hX hbl hbA hS (vp_in_nI (n := 1) (by decide) (by decide)) dL_law_617 ?_
  rw [nI_clamp (n := 1) (by decide)]
  refine lv_aload_n hx hb dL_law_618 rfl (lv_at hl 5 rfl) ?_
  refine lv_iload hx hb dL_law_619 (lv_at hl 0 rfl) ?_
  refine lv_iconst (v := nI 2) hx hb dL_law_621 (by decide) ?_
  refine lv_iadd hx hb dL_law_622 ?_
  rw [show nI 0 + nI 2 = nI 2 from by decide]
  refine va_sld hx hb hX hbl hbA hS (vp_in_nI (n := 2) (by decide) (by decide)) dL_law_623 ?_
  rw [nI_clamp (n := 2) (by decide)]
  refine lv_aload_n hx hb dL_law_624 rfl (lv_at hl 5 rfl) ?_
  refine lv_iload hx hb dL_law_625 (lv_at hl 0 rfl) ?_
  refine lv_iconst (v := nI 3) hx hb dL_law_627 (by decide) ?_
  refine lv_iadd hx hb dL_law_628 ?_
  rw [show nI 0 + nI 3 = nI 3 from by decide]
  refine va_sld hx hb hX hbl hbA hS (vp_in_nI (n := 3) (by decide) (by decide)) dL_law_629 ?_
  rw [nI_clamp (n := 3) (by decide)]
  refine lv_aload_n hx hb dL_law_630 rfl (lv_at hl 2 rfl) ?_
  have hF := va_free (wc := [(h0, .inr (7, [.ref a, .int (nI 0), .int (nI 8), .int (nI 0), .int (nI 0), .int (nI 0), .int (nI 0)])), (a, .inl (kA 2, 4, .inr (.inr (.inr (.inr (fun _ => none)))))), (o, .inl (kA 4, 1, .inr (.inl (fun _ => 0))))]) hD hS hA [0, 1, 4] rfl
  refine va_calli (vx_runSW (As := [.ref h0, .int (xs 1), .int (xs 2), .int (xs 3), .ref o]) (rest := []) ⟨hx, hb, hml, hown, hts⟩ (c_L_dirt_e l D kA z hfl h0 a o (xs 1) (xs 2) (xs 3) (fun _ => 0)  _) (vx_cwSW 5 hts h_law_17 rfl rfl rfl (by decide +kernel) ⟨Nat.le_of_ble_eq_true rfl, Nat.le_of_ble_eq_true rfl⟩) (fPs hK hP hD hS hG hF [0, 1, 4] (by decide) rfl) rfl rfl hl.1 rfl (lv_room (Nat.le_of_ble_eq_true rfl)) dL_law_631 ⟨Nat.le_of_ble_eq_true rfl, Nat.le_of_ble_eq_true rfl⟩) hS (fun q _ h => hF q h) hF (fun r_1 w1 t H locs ht hvm hw hB hz1 hk1 hS => ?_)
  obtain ⟨hP, hD⟩ := fJ (wr := [(h1, .inr (11, [.int (nI 0), .ref q, .int (nI 8), .int (nI 0), .int (nI 0), .int (nI 0), .int (nI 0), .long 0])), (q, .inr (1, [.int (nI 0), .ref z, .int (nI 0)])), (od, .inl (kA 5, 1, .inr (.inr (.inr (.inl (fun _ => 0))))))]) hP hD [0, 1, 4] [2, 3, 5] rfl rfl (by decide) (by decide) hk1 hF ht hB
  try dsimp only at hw
  obtain ⟨rfl, e_1⟩ := hw
  replace e_1 := e_1.symm
  subst e_1
  have hP : va_P D vwCl [(h1, .inr (11, [.int (nI 0), .ref q, .int (nI 8), .int (nI 0), .int (nI 0), .int (nI 0), .int (nI 0), .long 0])), (q, .inr (1, [.int (nI 0), .ref z, .int (nI 0)])), (od, .inl (kA 5, 1, .inr (.inr (.inr (.inl (fun _ => 0)))))), (h0, .inr (7, [.ref a, .int (nI 0), .int (nI 8), .int (nI 0), .int (nI 0), .int (nI 0), .int (nI 0)])), (a, .inl (kA 2, 4, .inr (.inr (.inr (.inr (fun _ => none)))))), (o, .inl (kA 4, 1, .inr (.inl (fun _ => 0))))] H := hP
  have hD : va_D A [(h1, .inr (11, [.int (nI 0), .ref q, .int (nI 8), .int (nI 0), .int (nI 0), .int (nI 0), .int (nI 0), .long 0])), (q, .inr (1, [.int (nI 0), .ref z, .int (nI 0)])), (od, .inl (kA 5, 1, .inr (.inr (.inr (.inl (fun _ => 0)))))), (h0, .inr (7, [.ref a, .int (nI 0), .int (nI 8), .int (nI 0), .int (nI 0), .int (nI 0), .int (nI 0)])), (a, .inl (kA 2, 4, .inr (.inr (.inr (.inr (fun _ => none)))))), (o, .inl (kA 4, 1, .inr (.inl (fun _ => 0))))] := hD
  refine lv_istore (lv' := [(6, .int (nI 1)), (5, .int (nI 0)), (4, .ref od), (3, .ref o), (2, .ref h1), (1, .ref h0), (0, .ref b)]) hx hb dL_law_634 hl (by decide) rfl (fun ls hl => ?_)
  refine lv_aload_n hx hb dL_law_636 rfl (lv_at hl 4 rfl) ?_
  refine lv_aload_n hx hb dL_law_637 rfl (lv_at hl 6 rfl) ?_
  refine lv_iload hx hb dL_law_638 (lv_at hl 1 rfl) ?_
  refine lv_iconst (v := nI 1) hx hb dL_law_640 (by decide) ?_
  refine lv_iadd hx hb dL_law_641 ?_
  rw [show nI 0 + nI 1 = nI 1 from by decide]
  refine va_sld hx hb hX hbl hbA hS (vp_in_nI (n := 1) (by decide) (by decide)) dL_law_642 ?_
  rw [nI_clamp (n := 1) (by decide)]
  refine lv_aload_n hx hb dL_law_643 rfl (lv_at hl 6 rfl) ?_
  refine lv_iload hx hb dL_law_644 (lv_at hl 1 rfl) ?_
  refine lv_iconst (v := nI 2) hx hb dL_law_646 (by decide) ?_
  refine lv_iadd hx hb dL_law_647 ?_
  rw [show nI 0 + nI 2 = nI 2 from by decide]
  refine va_sld hx hb hX hbl hbA hS (vp_in_nI (n := 2) (by decide) (by decide)) dL_law_648 ?_
  rw [nI_clamp (n := 2) (by decide)]
  refine lv_aload_n hx hb dL_law_649 rfl (lv_at hl 6 rfl) ?_
  refine lv_iload hx hb dL_law_650 (lv_at hl 1 rfl) ?_
  refine lv_iconst (v := nI 3) hx hb dL_law_652 (by decide) ?_
  refine lv_iadd hx hb dL_law_653 ?_
  rw [show nI 0 + nI 3 = nI 3 from by decide]
  refine va_sld hx hb hX hbl hbA hS (vp_in_nI (n := 3) (by decide) (by decide)) dL_law_654 ?_
  rw [nI_clamp (n := 3) (by decide)]
  have hF := va_free (wc := [(h1, .inr (11, [.int (nI 0), .ref q, .int (nI 8), .int (nI 0), .int (nI 0), .int (nI 0), .int (nI 0), .long 0])), (q, .inr (1, [.int (nI 0), .ref z, .int (nI 0)]))]) hD hS hA [0, 1] rfl
  refine va_calli (va_runV (As := [.int (xs 1), .int (xs 2), .int (xs 3)]) (rest := []) ⟨hx, hb, hml, hown, hts⟩ (c_X10_dirt_e l D kA z h1 q (nI 0) (xs 1) (xs 2) (xs 3)  _) (cwV 3 hts h_law_18 rfl rfl rfl (by decide +kernel) ⟨Nat.le_of_ble_eq_true rfl, Nat.le_of_ble_eq_true rfl⟩) (fPv hK hP hD hS hG hF [0, 1] (by decide) rfl 0 11 rfl rfl rfl) rfl rfl hl.1 rfl (lv_room (Nat.le_of_ble_eq_true rfl)) dL_law_655 ⟨Nat.le_of_ble_eq_true rfl, Nat.le_of_ble_eq_true rfl⟩) hS (fun q _ h => hF q h) hF (fun r_2 w1 t H locs ht hvm hw hB hz1 hk1 hS => ?_)
  obtain ⟨hP, hD⟩ := fJ (wr := [(od, .inl (kA 5, 1, .inr (.inr (.inr (.inl (fun _ => 0)))))), (h0, .inr (7, [.ref a, .int (nI 0), .int (nI 8), .int (nI 0), .int (nI 0), .int (nI 0), .int (nI 0)])), (a, .inl (kA 2, 4, .inr (.inr (.inr (.inr (fun _ => none)))))), (o, .inl (kA 4, 1, .inr (.inl (fun _ => 0))))]) hP hD [0, 1] [2, 3, 4, 5] rfl rfl (by decide) (by decide) hk1 hF ht hB
  try dsimp only at hw
  subst hw
  have hP : va_P D vwCl [(od, .inl (kA 5, 1, .inr (.inr (.inr (.inl (fun _ => 0)))))), (h0, .inr (7, [.ref a, .int (nI 0), .int (nI 8), .int (nI 0), .int (nI 0), .int (nI 0), .int (nI 0)])), (a, .inl (kA 2, 4, .inr (.inr (.inr (.inr (fun _ => none)))))), (o, .inl (kA 4, 1, .inr (.inl (fun _ => 0)))), (h1, .inr (11, [.int (nI 1), .ref q, .int (nI 8), .int (nI 0), .int (nI 0), .int (nI 0), .int (nI 0), .long 0])), (q, .inr (1, [.int (nI 0), .ref z, .int (nI 0)]))] H := hP
  have hD : va_D A [(od, .inl (kA 5, 1, .inr (.inr (.inr (.inl (fun _ => 0)))))), (h0, .inr (7, [.ref a, .int (nI 0), .int (nI 8), .int (nI 0), .int (nI 0), .int (nI 0), .int (nI 0)])), (a, .inl (kA 2, 4, .inr (.inr (.inr (.inr (fun _ => none)))))), (o, .inl (kA 4, 1, .inr (.inl (fun _ => 0)))), (h1, .inr (11, [.int (nI 1), .ref q, .int (nI 8), .int (nI 0), .int (nI 0), .int (nI 0), .int (nI 0), .long 0])), (q, .inr (1, [.int (nI 0), .ref z, .int (nI 0)]))] := hD
  refine lv_istore (lv' := [(7, .int r_2), (6, .int (nI 1)), (5, .int (nI 0)), (4, .ref od), (3, .ref o), (2, .ref h1), (1, .ref h0), (0, .ref b)]) hx hb dL_law_658 hl (by decide) rfl (fun ls hl => ?_)
  refine lv_aload_n hx hb dL_law_660 rfl (lv_at hl 5 rfl) ?_
  have hF := va_free (wc := [(h1, .inr (11, [.int (nI 1), .ref q, .int (nI 8), .int (nI 0), .int (nI 0), .int (nI 0), .int (nI 0), .long 0]))]) hD hS hA [4] rfl
  refine va_calli (va_runV (As := []) (rest := []) ⟨hx, hb, hml, hown, hts⟩ (c_X10_thrown l D kA z h1 q (nI 1) (nI 8) (nI 0) (nI 0) (nI 0) (nI 0) 0  _) (cwV 0 hts h_law_2 rfl rfl rfl (by decide +kernel) ⟨Nat.le_of_ble_eq_true rfl, Nat.le_of_ble_eq_true rfl⟩) (fPv hK hP hD hS hG hF [4] (by decide) rfl 4 11 rfl rfl rfl) rfl rfl hl.1 rfl (lv_room (Nat.le_of_ble_eq_true rfl)) dL_law_661 ⟨Nat.le_of_ble_eq_true rfl, Nat.le_of_ble_eq_true rfl⟩) hS (fun q _ h => hF q h) hF (fun r_3 w1 t H locs ht hvm hw hB hz1 hk1 hS => ?_)
  obtain ⟨hP, hD⟩ := fJ (wr := [(od, .inl (kA 5, 1, .inr (.inr (.inr (.inl (fun _ => 0)))))), (h0, .inr (7, [.ref a, .int (nI 0), .int (nI 8), .int (nI 0), .int (nI 0), .int (nI 0), .int (nI 0)])), (a, .inl (kA 2, 4, .inr (.inr (.inr (.inr (fun _ => none)))))), (o, .inl (kA 4, 1, .inr (.inl (fun _ => 0)))), (q, .inr (1, [.int (nI 0), .ref z, .int (nI 0)]))]) hP hD [4] [0, 1, 2, 3, 5] rfl rfl (by decide) (by decide) hk1 hF ht hB
  try dsimp only at hw
  obtain ⟨rfl, e_2⟩ := hw
  replace e_2 := e_2.symm
  subst e_2
  have hP : va_P D vwCl [(od, .inl (kA 5, 1, .inr (.inr (.inr (.inl (fun _ => 0)))))), (h0, .inr (7, [.ref a, .int (nI 0), .int (nI 8), .int (nI 0), .int (nI 0), .int (nI 0), .int (nI 0)])), (a, .inl (kA 2, 4, .inr (.inr (.inr (.inr (fun _ => none)))))), (o, .inl (kA 4, 1, .inr (.inl (fun _ => 0)))), (q, .inr (1, [.int (nI 0), .ref z, .int (nI 0)])), (h1, .inr (11, [.int (nI 1), .ref q, .int (nI 8), .int (nI 0), .int (nI 0), .int (nI 0), .int (nI 0), .long 0]))] H := hP
  have hD : va_D A [(od, .inl (kA 5, 1, .inr (.inr (.inr (.inl (fun _ => 0)))))), (h0, .inr (7, [.ref a, .int (nI 0), .int (nI 8), .int (nI 0), .int (nI 0), .int (nI 0), .int (nI 0)])), (a, .inl (kA 2, 4, .inr (.inr (.inr (.inr (fun _ => none)))))), (o, .inl (kA 4, 1, .inr (.inl (fun _ => 0)))), (q, .inr (1, [.int (nI 0), .ref z, .int (nI 0)])), (h1, .inr (11, [.int (nI 1), .ref q, .int (nI 8), .int (nI 0), .int (nI 0), .int (nI 0), .int (nI 0), .long 0]))] := hD
  refine lv_iload hx hb dL_law_664 (lv_at hl 1 rfl) ?_
  refine lv_icmp_eq (tgt := 671) hx hb dL_law_666 (by decide) (fun _ => ?_) (fun c666 => absurd (by decide) c666)
  refine lv_iload hx hb dL_law_671 (lv_at hl 1 rfl) ?_
  refine lv_if_ne (tgt := 688) hx hb dL_law_673 (by decide) (fun _ => ?_) (fun c673 => absurd c673 (by decide))
  refine lv_goto (tgt := 1775) hx hb dL_law_688 (by decide) ?_
  subst hAe
  exact law_tail C0 hS (lv_sub hl [2, 7] rfl) (Nat.le_of_ble_eq_true rfl) (Nat.le_of_ble_eq_true rfl)

set_option maxHeartbeats 16000000 in
set_option maxRecDepth 100000 in
theorem law_case7 {p : Program} {e : Env} {s : State} {m : MethodId} {below : List Frame} {meth : Method} {c : Code} {l : Launch} {b : Nat} {xs : Nat → Int32} (hfl : l.stackTraces = false) (C0 : lw_At p s m meth c b 6 xs) (hts : ∀ w ∈ wq_law, w.before #[Value.ref b] s = true) {D : va_G} {kA : Nat → ClassId} {z : Nat} (hK : va_K D vwCl (tyL kA) s) (hG : gS z (fun q : Nat => s.heap.size ≤ q) s s.heap) {h0 a h1 q o od : Nat} {H : Heap} {locs : List Loc} {ls : Array Slot} (hP : va_P D vwCl [(h0, .inr (7, [.ref a, .int (nI 0), .int (nI 8), .int (nI 0), .int (nI 0), .int (nI 0), .int (nI 0)])), (a, .inl (kA 2, 4, .inr (.inr (.inr (.inr (fun _ => none)))))), (h1, .inr (11, [.int (nI 0), .ref q, .int (nI 8), .int (nI 0), .int (nI 0), .int (nI 0), .int (nI 0), .long 0])), (q, .inr (1, [.int (nI 0), .ref z, .int (nI 0)])), (o, .inl (kA 4, 1, .inr (.inl (fun _ => 0)))), (od, .inl (kA 5, 1, .inr (.inr (.inr (.inl (fun _ => 0))))))] H) (hD : va_D (fun q : Nat => s.heap.size ≤ q) [(h0, .inr (7, [.ref a, .int (nI 0), .int (nI 8), .int (nI 0), .int (nI 0), .int (nI 0), .int (nI 0)])), (a, .inl (kA 2, 4, .inr (.inr (.inr (.inr (fun _ => none)))))), (h1, .inr (11, [.int (nI 0), .ref q, .int (nI 8), .int (nI 0), .int (nI 0), .int (nI 0), .int (nI 0), .long 0])), (q, .inr (1, [.int (nI 0), .ref z, .int (nI 0)])), (o, .inl (kA 4, 1, .inr (.inl (fun _ => 0)))), (od, .inl (kA 5, 1, .inr (.inr (.inr (.inl (fun _ => 0))))))]) (hS : va_S (fun q : Nat => s.heap.size ≤ q) s.heap H locs) (hl : lv_has ls 9 [(5, .int (nI 0)), (4, .ref od), (3, .ref o), (2, .ref h1), (1, .ref h0), (0, .ref b)]) : W p l e room_1 s m #[Value.ref b] below meth c H locs 6 24 (lw_Z below #[Value.ref b] s) (F0 m 691 ls []) := by
  obtain ⟨hx, hb, hr, hml, hown, hts0, hX, hbl, hlocks, hgv⟩ := id C0
  have hA : ∀ q : Nat, s.heap.size ≤ q → (fun q : Nat => s.heap.size ≤ q) q := fun _ h => h
  have hbA : ¬ (fun q : Nat => s.heap.size ≤ q) b := Nat.not_le.mpr hbl
  generalize hAe : (fun q : Nat => s.heap.size ≤ q) = A at hD hS hA hbA hG
  refine lv_aload_n hx hb dL_law_691 rfl (lv_at hl 4 rfl) ?_
  refine lv_aload_n hx hb dL_law_692 rfl (lv_at hl 5 rfl) ?_
  refine lv_iload hx hb dL_law_693 (lv_at hl 0 rfl) ?_
  refine lv_iconst (v := nI 1) hx hb dL_law_695 (by decide) ?_
  refine lv_iadd hx hb dL_law_696 ?_
  rw [show nI 0 + nI 1 = nI 1 from by decide]
  refine va_sld hx hb hX hbl hbA hS (vp_in_nI (n := 1) (by decide) (by decide)) dL_law_697 ?_
  rw [nI_clamp (n := 1) (by decide)]
  refine lv_aload_n hx hb dL_law_698 rfl (lv_at hl 2 rfl) ?_
  have hF := va_free (wc := [(h0, .inr (7, [.ref a, .int (nI 0), .int (nI 8), .int (nI 0), .int (nI 0), .int (nI 0), .int (nI 0)])), (a, .inl (kA 2, 4, .inr (.inr (.inr (.inr (fun _ => none)))))), (o, .inl (kA 4, 1, .inr (.inl (fun _ => 0))))]) hD hS hA [0, 1, 4] rfl
  refine va_calli (vx_runSW (As := [.ref h0, .int (xs 1), .ref o]) (rest := []) ⟨hx, hb, hml, hown, hts⟩ (c_L_clean_e l D kA z hfl h0 a o (xs 1) (fun _ => 0)  _) (vx_cwSW 3 hts h_law_19 rfl rfl rfl (by decide +kernel) ⟨Nat.le_of_ble_eq_true rfl, Nat.le_of_ble_eq_true rfl⟩) (fPs hK hP hD hS hG hF [0, 1, 4] (by decide) rfl) rfl rfl hl.1 rfl (lv_room (Nat.le_of_ble_eq_true rfl)) dL_law_699 ⟨Nat.le_of_ble_eq_true rfl, Nat.le_of_ble_eq_true rfl⟩) hS (fun q _ h => hF q h) hF (fun r_1 w1 t H locs ht hvm hw hB hz1 hk1 hS => ?_)
  obtain ⟨hP, hD⟩ := fJ (wr := [(h1, .inr (11, [.int (nI 0), .ref q, .int (nI 8), .int (nI 0), .int (nI 0), .int (nI 0), .int (nI 0), .long 0])), (q, .inr (1, [.int (nI 0), .ref z, .int (nI 0)])), (od, .inl (kA 5, 1, .inr (.inr (.inr (.inl (fun _ => 0))))))]) hP hD [0, 1, 4] [2, 3, 5] rfl rfl (by decide) (by decide) hk1 hF ht hB
  try dsimp only at hw
  obtain ⟨rfl, e_1⟩ := hw
  replace e_1 := e_1.symm
  subst e_1
  have hP : va_P D vwCl [(h1, .inr (11, [.int (nI 0), .ref q, .int (nI 8), .int (nI 0), .int (nI 0), .int (nI 0), .int (nI 0), .long 0])), (q, .inr (1, [.int (nI 0), .ref z, .int (nI 0)])), (od, .inl (kA 5, 1, .inr (.inr (.inr (.inl (fun _ => 0)))))), (h0, .inr (7, [.ref a, .int (nI 0), .int (nI 8), .int (nI 0), .int (nI 0), .int (nI 0), .int (nI 0)])), (a, .inl (kA 2, 4, .inr (.inr (.inr (.inr (fun _ => none)))))), (o, .inl (kA 4, 1, .inr (.inl (fun _ => 0))))] H := hP
  have hD : va_D A [(h1, .inr (11, [.int (nI 0), .ref q, .int (nI 8), .int (nI 0), .int (nI 0), .int (nI 0), .int (nI 0), .long 0])), (q, .inr (1, [.int (nI 0), .ref z, .int (nI 0)])), (od, .inl (kA 5, 1, .inr (.inr (.inr (.inl (fun _ => 0)))))), (h0, .inr (7, [.ref a, .int (nI 0), .int (nI 8), .int (nI 0), .int (nI 0), .int (nI 0), .int (nI 0)])), (a, .inl (kA 2, 4, .inr (.inr (.inr (.inr (fun _ => none)))))), (o, .inl (kA 4, 1, .inr (.inl (fun _ => 0))))] := hD
  refine lv_istore (lv' := [(6, .int (nI 1)), (5, .int (nI 0)), (4, .ref od), (3, .ref o), (2, .ref h1), (1, .ref h0), (0, .ref b)]) hx hb dL_law_702 hl (by decide) rfl (fun ls hl => ?_)
  refine lv_aload_n hx hb dL_law_704 rfl (lv_at hl 4 rfl) ?_
  refine lv_aload_n hx hb dL_law_705 rfl (lv_at hl 6 rfl) ?_
  refine lv_iload hx hb dL_law_706 (lv_at hl 1 rfl) ?_
  refine lv_iconst (v := nI 1) hx hb dL_law_708 (by decide) ?_
  refine lv_iadd hx hb dL_law_709 ?_
  rw [show nI 0 + nI 1 = nI 1 from by decide]
  refine va_sld hx hb hX hbl hbA hS (vp_in_nI (n := 1) (by decide) (by decide)) dL_law_710 ?_
  rw [nI_clamp (n := 1) (by decide)]
  have hF := va_free (wc := [(h1, .inr (11, [.int (nI 0), .ref q, .int (nI 8), .int (nI 0), .int (nI 0), .int (nI 0), .int (nI 0), .long 0])), (q, .inr (1, [.int (nI 0), .ref z, .int (nI 0)]))]) hD hS hA [0, 1] rfl
  refine va_calli (va_runV (As := [.int (xs 1)]) (rest := []) ⟨hx, hb, hml, hown, hts⟩ (c_X10_clean_e l D kA z h1 q (nI 0) (xs 1)  _) (cwV 1 hts h_law_20 rfl rfl rfl (by decide +kernel) ⟨Nat.le_of_ble_eq_true rfl, Nat.le_of_ble_eq_true rfl⟩) (fPv hK hP hD hS hG hF [0, 1] (by decide) rfl 0 11 rfl rfl rfl) rfl rfl hl.1 rfl (lv_room (Nat.le_of_ble_eq_true rfl)) dL_law_711 ⟨Nat.le_of_ble_eq_true rfl, Nat.le_of_ble_eq_true rfl⟩) hS (fun q _ h => hF q h) hF (fun r_2 w1 t H locs ht hvm hw hB hz1 hk1 hS => ?_)
  obtain ⟨hP, hD⟩ := fJ (wr := [(od, .inl (kA 5, 1, .inr (.inr (.inr (.inl (fun _ => 0)))))), (h0, .inr (7, [.ref a, .int (nI 0), .int (nI 8), .int (nI 0), .int (nI 0), .int (nI 0), .int (nI 0)])), (a, .inl (kA 2, 4, .inr (.inr (.inr (.inr (fun _ => none)))))), (o, .inl (kA 4, 1, .inr (.inl (fun _ => 0))))]) hP hD [0, 1] [2, 3, 4, 5] rfl rfl (by decide) (by decide) hk1 hF ht hB
  try dsimp only at hw
  subst hw
  have hP : va_P D vwCl [(od, .inl (kA 5, 1, .inr (.inr (.inr (.inl (fun _ => 0)))))), (h0, .inr (7, [.ref a, .int (nI 0), .int (nI 8), .int (nI 0), .int (nI 0), .int (nI 0), .int (nI 0)])), (a, .inl (kA 2, 4, .inr (.inr (.inr (.inr (fun _ => none)))))), (o, .inl (kA 4, 1, .inr (.inl (fun _ => 0)))), (h1, .inr (11, [.int (nI 1), .ref q, .int (nI 8), .int (nI 0), .int (nI 0), .int (nI 0), .int (nI 0), .long 0])), (q, .inr (1, [.int (nI 0), .ref z, .int (nI 0)]))] H := hP
  have hD : va_D A [(od, .inl (kA 5, 1, .inr (.inr (.inr (.inl (fun _ => 0)))))), (h0, .inr (7, [.ref a, .int (nI 0), .int (nI 8), .int (nI 0), .int (nI 0), .int (nI 0), .int (nI 0)])), (a, .inl (kA 2, 4, .inr (.inr (.inr (.inr (fun _ => none)))))), (o, .inl (kA 4, 1, .inr (.inl (fun _ => 0)))), (h1, .inr (11, [.int (nI 1), .ref q, .int (nI 8), .int (nI 0), .int (nI 0), .int (nI 0), .int (nI 0), .long 0])), (q, .inr (1, [.int (nI 0), .ref z, .int (nI 0)]))] := hD
  refine lv_istore (lv' := [(7, .int r_2), (6, .int (nI 1)), (5, .int (nI 0)), (4, .ref od), (3, .ref o), (2, .ref h1), (1, .ref h0), (0, .ref b)]) hx hb dL_law_714 hl (by decide) rfl (fun ls hl => ?_)
  refine lv_aload_n hx hb dL_law_716 rfl (lv_at hl 5 rfl) ?_
  have hF := va_free (wc := [(h1, .inr (11, [.int (nI 1), .ref q, .int (nI 8), .int (nI 0), .int (nI 0), .int (nI 0), .int (nI 0), .long 0]))]) hD hS hA [4] rfl
  refine va_calli (va_runV (As := []) (rest := []) ⟨hx, hb, hml, hown, hts⟩ (c_X10_thrown l D kA z h1 q (nI 1) (nI 8) (nI 0) (nI 0) (nI 0) (nI 0) 0  _) (cwV 0 hts h_law_2 rfl rfl rfl (by decide +kernel) ⟨Nat.le_of_ble_eq_true rfl, Nat.le_of_ble_eq_true rfl⟩) (fPv hK hP hD hS hG hF [4] (by decide) rfl 4 11 rfl rfl rfl) rfl rfl hl.1 rfl (lv_room (Nat.le_of_ble_eq_true rfl)) dL_law_717 ⟨Nat.le_of_ble_eq_true rfl, Nat.le_of_ble_eq_true rfl⟩) hS (fun q _ h => hF q h) hF (fun r_3 w1 t H locs ht hvm hw hB hz1 hk1 hS => ?_)
  obtain ⟨hP, hD⟩ := fJ (wr := [(od, .inl (kA 5, 1, .inr (.inr (.inr (.inl (fun _ => 0)))))), (h0, .inr (7, [.ref a, .int (nI 0), .int (nI 8), .int (nI 0), .int (nI 0), .int (nI 0), .int (nI 0)])), (a, .inl (kA 2, 4, .inr (.inr (.inr (.inr (fun _ => none)))))), (o, .inl (kA 4, 1, .inr (.inl (fun _ => 0)))), (q, .inr (1, [.int (nI 0), .ref z, .int (nI 0)]))]) hP hD [4] [0, 1, 2, 3, 5] rfl rfl (by decide) (by decide) hk1 hF ht hB
  try dsimp only at hw
  obtain ⟨rfl, e_2⟩ := hw
  replace e_2 := e_2.symm
  subst e_2
  have hP : va_P D vwCl [(od, .inl (kA 5, 1, .inr (.inr (.inr (.inl (fun _ => 0)))))), (h0, .inr (7, [.ref a, .int (nI 0), .int (nI 8), .int (nI 0), .int (nI 0), .int (nI 0), .int (nI 0)])), (a, .inl (kA 2, 4, .inr (.inr (.inr (.inr (fun _ => none)))))), (o, .inl (kA 4, 1, .inr (.inl (fun _ => 0)))), (q, .inr (1, [.int (nI 0), .ref z, .int (nI 0)])), (h1, .inr (11, [.int (nI 1), .ref q, .int (nI 8), .int (nI 0), .int (nI 0), .int (nI 0), .int (nI 0), .long 0]))] H := hP
  have hD : va_D A [(od, .inl (kA 5, 1, .inr (.inr (.inr (.inl (fun _ => 0)))))), (h0, .inr (7, [.ref a, .int (nI 0), .int (nI 8), .int (nI 0), .int (nI 0), .int (nI 0), .int (nI 0)])), (a, .inl (kA 2, 4, .inr (.inr (.inr (.inr (fun _ => none)))))), (o, .inl (kA 4, 1, .inr (.inl (fun _ => 0)))), (q, .inr (1, [.int (nI 0), .ref z, .int (nI 0)])), (h1, .inr (11, [.int (nI 1), .ref q, .int (nI 8), .int (nI 0), .int (nI 0), .int (nI 0), .int (nI 0), .long 0]))] := hD
  refine lv_iload hx hb dL_law_720 (lv_at hl 1 rfl) ?_
  refine lv_icmp_eq (tgt := 727) hx hb dL_law_722 (by decide) (fun _ => ?_) (fun c722 => absurd (by decide) c722)
  refine lv_iload hx hb dL_law_727 (lv_at hl 1 rfl) ?_
  refine lv_if_ne (tgt := 744) hx hb dL_law_729 (by decide) (fun _ => ?_) (fun c729 => absurd c729 (by decide))
  refine lv_goto (tgt := 1775) hx hb dL_law_744 (by decide) ?_
  subst hAe
  exact law_tail C0 hS (lv_sub hl [2, 7] rfl) (Nat.le_of_ble_eq_true rfl) (Nat.le_of_ble_eq_true rfl)

set_option maxHeartbeats 16000000 in
set_option maxRecDepth 100000 in
theorem law_case8 {p : Program} {e : Env} {s : State} {m : MethodId} {below : List Frame} {meth : Method} {c : Code} {l : Launch} {b : Nat} {xs : Nat → Int32} (hfl : l.stackTraces = false) (C0 : lw_At p s m meth c b 6 xs) (hts : ∀ w ∈ wq_law, w.before #[Value.ref b] s = true) {D : va_G} {kA : Nat → ClassId} {z : Nat} (hK : va_K D vwCl (tyL kA) s) (hG : gS z (fun q : Nat => s.heap.size ≤ q) s s.heap) {h0 a h1 q o od : Nat} {H : Heap} {locs : List Loc} {ls : Array Slot} (hP : va_P D vwCl [(h0, .inr (7, [.ref a, .int (nI 0), .int (nI 8), .int (nI 0), .int (nI 0), .int (nI 0), .int (nI 0)])), (a, .inl (kA 2, 4, .inr (.inr (.inr (.inr (fun _ => none)))))), (h1, .inr (11, [.int (nI 0), .ref q, .int (nI 8), .int (nI 0), .int (nI 0), .int (nI 0), .int (nI 0), .long 0])), (q, .inr (1, [.int (nI 0), .ref z, .int (nI 0)])), (o, .inl (kA 4, 1, .inr (.inl (fun _ => 0)))), (od, .inl (kA 5, 1, .inr (.inr (.inr (.inl (fun _ => 0))))))] H) (hD : va_D (fun q : Nat => s.heap.size ≤ q) [(h0, .inr (7, [.ref a, .int (nI 0), .int (nI 8), .int (nI 0), .int (nI 0), .int (nI 0), .int (nI 0)])), (a, .inl (kA 2, 4, .inr (.inr (.inr (.inr (fun _ => none)))))), (h1, .inr (11, [.int (nI 0), .ref q, .int (nI 8), .int (nI 0), .int (nI 0), .int (nI 0), .int (nI 0), .long 0])), (q, .inr (1, [.int (nI 0), .ref z, .int (nI 0)])), (o, .inl (kA 4, 1, .inr (.inl (fun _ => 0)))), (od, .inl (kA 5, 1, .inr (.inr (.inr (.inl (fun _ => 0))))))]) (hS : va_S (fun q : Nat => s.heap.size ≤ q) s.heap H locs) (hl : lv_has ls 9 [(5, .int (nI 0)), (4, .ref od), (3, .ref o), (2, .ref h1), (1, .ref h0), (0, .ref b)]) : W p l e room_1 s m #[Value.ref b] below meth c H locs 6 24 (lw_Z below #[Value.ref b] s) (F0 m 747 ls []) := by
  obtain ⟨hx, hb, hr, hml, hown, hts0, hX, hbl, hlocks, hgv⟩ := id C0
  have hA : ∀ q : Nat, s.heap.size ≤ q → (fun q : Nat => s.heap.size ≤ q) q := fun _ h => h
  have hbA : ¬ (fun q : Nat => s.heap.size ≤ q) b := Nat.not_le.mpr hbl
  generalize hAe : (fun q : Nat => s.heap.size ≤ q) = A at hD hS hA hbA hG
  refine lv_aload_n hx hb dL_law_747 rfl (lv_at hl 4 rfl) ?_
  refine lv_aload_n hx hb dL_law_748 rfl (lv_at hl 5 rfl) ?_
  refine lv_iload hx hb dL_law_749 (lv_at hl 0 rfl) ?_
  refine lv_iconst (v := nI 1) hx hb dL_law_751 (by decide) ?_
  refine lv_iadd hx hb dL_law_752 ?_
  rw [show nI 0 + nI 1 = nI 1 from by decide]
  refine va_sld hx hb hX hbl hbA hS (vp_in_nI (n := 1) (by decide) (by decide)) dL_law_753 ?_
  rw [nI_clamp (n := 1) (by decide)]
  refine lv_aload_n hx hb dL_law_754 rfl (lv_at hl 2 rfl) ?_
  have hF := va_free (wc := [(h0, .inr (7, [.ref a, .int (nI 0), .int (nI 8), .int (nI 0), .int (nI 0), .int (nI 0), .int (nI 0)])), (a, .inl (kA 2, 4, .inr (.inr (.inr (.inr (fun _ => none)))))), (o, .inl (kA 4, 1, .inr (.inl (fun _ => 0))))]) hD hS hA [0, 1, 4] rfl
  refine va_calli (vx_runSW (As := [.ref h0, .int (xs 1), .ref o]) (rest := []) ⟨hx, hb, hml, hown, hts⟩ (c_L_read_e l D kA z hfl h0 a o (xs 1) (fun _ => 0)  _) (vx_cwSW 3 hts h_law_21 rfl rfl rfl (by decide +kernel) ⟨Nat.le_of_ble_eq_true rfl, Nat.le_of_ble_eq_true rfl⟩) (fPs hK hP hD hS hG hF [0, 1, 4] (by decide) rfl) rfl rfl hl.1 rfl (lv_room (Nat.le_of_ble_eq_true rfl)) dL_law_755 ⟨Nat.le_of_ble_eq_true rfl, Nat.le_of_ble_eq_true rfl⟩) hS (fun q _ h => hF q h) hF (fun r_1 w1 t H locs ht hvm hw hB hz1 hk1 hS => ?_)
  obtain ⟨hP, hD⟩ := fJ (wr := [(h1, .inr (11, [.int (nI 0), .ref q, .int (nI 8), .int (nI 0), .int (nI 0), .int (nI 0), .int (nI 0), .long 0])), (q, .inr (1, [.int (nI 0), .ref z, .int (nI 0)])), (od, .inl (kA 5, 1, .inr (.inr (.inr (.inl (fun _ => 0))))))]) hP hD [0, 1, 4] [2, 3, 5] rfl rfl (by decide) (by decide) hk1 hF ht hB
  try dsimp only at hw
  obtain ⟨rfl, e_1⟩ := hw
  replace e_1 := e_1.symm
  subst e_1
  have hP : va_P D vwCl [(h1, .inr (11, [.int (nI 0), .ref q, .int (nI 8), .int (nI 0), .int (nI 0), .int (nI 0), .int (nI 0), .long 0])), (q, .inr (1, [.int (nI 0), .ref z, .int (nI 0)])), (od, .inl (kA 5, 1, .inr (.inr (.inr (.inl (fun _ => 0)))))), (h0, .inr (7, [.ref a, .int (nI 0), .int (nI 8), .int (nI 0), .int (nI 0), .int (nI 0), .int (nI 0)])), (a, .inl (kA 2, 4, .inr (.inr (.inr (.inr (fun _ => none)))))), (o, .inl (kA 4, 1, .inr (.inl (fun _ => 0))))] H := hP
  have hD : va_D A [(h1, .inr (11, [.int (nI 0), .ref q, .int (nI 8), .int (nI 0), .int (nI 0), .int (nI 0), .int (nI 0), .long 0])), (q, .inr (1, [.int (nI 0), .ref z, .int (nI 0)])), (od, .inl (kA 5, 1, .inr (.inr (.inr (.inl (fun _ => 0)))))), (h0, .inr (7, [.ref a, .int (nI 0), .int (nI 8), .int (nI 0), .int (nI 0), .int (nI 0), .int (nI 0)])), (a, .inl (kA 2, 4, .inr (.inr (.inr (.inr (fun _ => none)))))), (o, .inl (kA 4, 1, .inr (.inl (fun _ => 0))))] := hD
  refine lv_istore (lv' := [(6, .int (nI 1)), (5, .int (nI 0)), (4, .ref od), (3, .ref o), (2, .ref h1), (1, .ref h0), (0, .ref b)]) hx hb dL_law_758 hl (by decide) rfl (fun ls hl => ?_)
  refine lv_aload_n hx hb dL_law_760 rfl (lv_at hl 4 rfl) ?_
  refine lv_aload_n hx hb dL_law_761 rfl (lv_at hl 6 rfl) ?_
  refine lv_iload hx hb dL_law_762 (lv_at hl 1 rfl) ?_
  refine lv_iconst (v := nI 1) hx hb dL_law_764 (by decide) ?_
  refine lv_iadd hx hb dL_law_765 ?_
  rw [show nI 0 + nI 1 = nI 1 from by decide]
  refine va_sld hx hb hX hbl hbA hS (vp_in_nI (n := 1) (by decide) (by decide)) dL_law_766 ?_
  rw [nI_clamp (n := 1) (by decide)]
  have hF := va_free (wc := [(h1, .inr (11, [.int (nI 0), .ref q, .int (nI 8), .int (nI 0), .int (nI 0), .int (nI 0), .int (nI 0), .long 0])), (q, .inr (1, [.int (nI 0), .ref z, .int (nI 0)]))]) hD hS hA [0, 1] rfl
  refine va_calli (va_runV (As := [.int (xs 1)]) (rest := []) ⟨hx, hb, hml, hown, hts⟩ (c_X10_read_e l D kA z h1 q (nI 0) (xs 1)  _) (cwV 1 hts h_law_22 rfl rfl rfl (by decide +kernel) ⟨Nat.le_of_ble_eq_true rfl, Nat.le_of_ble_eq_true rfl⟩) (fPv hK hP hD hS hG hF [0, 1] (by decide) rfl 0 11 rfl rfl rfl) rfl rfl hl.1 rfl (lv_room (Nat.le_of_ble_eq_true rfl)) dL_law_767 ⟨Nat.le_of_ble_eq_true rfl, Nat.le_of_ble_eq_true rfl⟩) hS (fun q _ h => hF q h) hF (fun r_2 w1 t H locs ht hvm hw hB hz1 hk1 hS => ?_)
  obtain ⟨hP, hD⟩ := fJ (wr := [(od, .inl (kA 5, 1, .inr (.inr (.inr (.inl (fun _ => 0)))))), (h0, .inr (7, [.ref a, .int (nI 0), .int (nI 8), .int (nI 0), .int (nI 0), .int (nI 0), .int (nI 0)])), (a, .inl (kA 2, 4, .inr (.inr (.inr (.inr (fun _ => none)))))), (o, .inl (kA 4, 1, .inr (.inl (fun _ => 0))))]) hP hD [0, 1] [2, 3, 4, 5] rfl rfl (by decide) (by decide) hk1 hF ht hB
  try dsimp only at hw
  subst hw
  have hP : va_P D vwCl [(od, .inl (kA 5, 1, .inr (.inr (.inr (.inl (fun _ => 0)))))), (h0, .inr (7, [.ref a, .int (nI 0), .int (nI 8), .int (nI 0), .int (nI 0), .int (nI 0), .int (nI 0)])), (a, .inl (kA 2, 4, .inr (.inr (.inr (.inr (fun _ => none)))))), (o, .inl (kA 4, 1, .inr (.inl (fun _ => 0)))), (h1, .inr (11, [.int (nI 1), .ref q, .int (nI 8), .int (nI 0), .int (nI 0), .int (nI 0), .int (nI 0), .long 0])), (q, .inr (1, [.int (nI 0), .ref z, .int (nI 0)]))] H := hP
  have hD : va_D A [(od, .inl (kA 5, 1, .inr (.inr (.inr (.inl (fun _ => 0)))))), (h0, .inr (7, [.ref a, .int (nI 0), .int (nI 8), .int (nI 0), .int (nI 0), .int (nI 0), .int (nI 0)])), (a, .inl (kA 2, 4, .inr (.inr (.inr (.inr (fun _ => none)))))), (o, .inl (kA 4, 1, .inr (.inl (fun _ => 0)))), (h1, .inr (11, [.int (nI 1), .ref q, .int (nI 8), .int (nI 0), .int (nI 0), .int (nI 0), .int (nI 0), .long 0])), (q, .inr (1, [.int (nI 0), .ref z, .int (nI 0)]))] := hD
  refine lv_istore (lv' := [(7, .int r_2), (6, .int (nI 1)), (5, .int (nI 0)), (4, .ref od), (3, .ref o), (2, .ref h1), (1, .ref h0), (0, .ref b)]) hx hb dL_law_770 hl (by decide) rfl (fun ls hl => ?_)
  refine lv_aload_n hx hb dL_law_772 rfl (lv_at hl 5 rfl) ?_
  have hF := va_free (wc := [(h1, .inr (11, [.int (nI 1), .ref q, .int (nI 8), .int (nI 0), .int (nI 0), .int (nI 0), .int (nI 0), .long 0]))]) hD hS hA [4] rfl
  refine va_calli (va_runV (As := []) (rest := []) ⟨hx, hb, hml, hown, hts⟩ (c_X10_thrown l D kA z h1 q (nI 1) (nI 8) (nI 0) (nI 0) (nI 0) (nI 0) 0  _) (cwV 0 hts h_law_2 rfl rfl rfl (by decide +kernel) ⟨Nat.le_of_ble_eq_true rfl, Nat.le_of_ble_eq_true rfl⟩) (fPv hK hP hD hS hG hF [4] (by decide) rfl 4 11 rfl rfl rfl) rfl rfl hl.1 rfl (lv_room (Nat.le_of_ble_eq_true rfl)) dL_law_773 ⟨Nat.le_of_ble_eq_true rfl, Nat.le_of_ble_eq_true rfl⟩) hS (fun q _ h => hF q h) hF (fun r_3 w1 t H locs ht hvm hw hB hz1 hk1 hS => ?_)
  obtain ⟨hP, hD⟩ := fJ (wr := [(od, .inl (kA 5, 1, .inr (.inr (.inr (.inl (fun _ => 0)))))), (h0, .inr (7, [.ref a, .int (nI 0), .int (nI 8), .int (nI 0), .int (nI 0), .int (nI 0), .int (nI 0)])), (a, .inl (kA 2, 4, .inr (.inr (.inr (.inr (fun _ => none)))))), (o, .inl (kA 4, 1, .inr (.inl (fun _ => 0)))), (q, .inr (1, [.int (nI 0), .ref z, .int (nI 0)]))]) hP hD [4] [0, 1, 2, 3, 5] rfl rfl (by decide) (by decide) hk1 hF ht hB
  try dsimp only at hw
  obtain ⟨rfl, e_2⟩ := hw
  replace e_2 := e_2.symm
  subst e_2
  have hP : va_P D vwCl [(od, .inl (kA 5, 1, .inr (.inr (.inr (.inl (fun _ => 0)))))), (h0, .inr (7, [.ref a, .int (nI 0), .int (nI 8), .int (nI 0), .int (nI 0), .int (nI 0), .int (nI 0)])), (a, .inl (kA 2, 4, .inr (.inr (.inr (.inr (fun _ => none)))))), (o, .inl (kA 4, 1, .inr (.inl (fun _ => 0)))), (q, .inr (1, [.int (nI 0), .ref z, .int (nI 0)])), (h1, .inr (11, [.int (nI 1), .ref q, .int (nI 8), .int (nI 0), .int (nI 0), .int (nI 0), .int (nI 0), .long 0]))] H := hP
  have hD : va_D A [(od, .inl (kA 5, 1, .inr (.inr (.inr (.inl (fun _ => 0)))))), (h0, .inr (7, [.ref a, .int (nI 0), .int (nI 8), .int (nI 0), .int (nI 0), .int (nI 0), .int (nI 0)])), (a, .inl (kA 2, 4, .inr (.inr (.inr (.inr (fun _ => none)))))), (o, .inl (kA 4, 1, .inr (.inl (fun _ => 0)))), (q, .inr (1, [.int (nI 0), .ref z, .int (nI 0)])), (h1, .inr (11, [.int (nI 1), .ref q, .int (nI 8), .int (nI 0), .int (nI 0), .int (nI 0), .int (nI 0), .long 0]))] := hD
  refine lv_iload hx hb dL_law_776 (lv_at hl 1 rfl) ?_
  refine lv_icmp_eq (tgt := 783) hx hb dL_law_778 (by decide) (fun _ => ?_) (fun c778 => absurd (by decide) c778)
  refine lv_iload hx hb dL_law_783 (lv_at hl 1 rfl) ?_
  refine lv_if_ne (tgt := 800) hx hb dL_law_785 (by decide) (fun _ => ?_) (fun c785 => absurd c785 (by decide))
  refine lv_goto (tgt := 1775) hx hb dL_law_800 (by decide) ?_
  subst hAe
  exact law_tail C0 hS (lv_sub hl [2, 7] rfl) (Nat.le_of_ble_eq_true rfl) (Nat.le_of_ble_eq_true rfl)

set_option maxHeartbeats 16000000 in
set_option maxRecDepth 100000 in
theorem law_case9 {p : Program} {e : Env} {s : State} {m : MethodId} {below : List Frame} {meth : Method} {c : Code} {l : Launch} {b : Nat} {xs : Nat → Int32} (hfl : l.stackTraces = false) (C0 : lw_At p s m meth c b 6 xs) (hts : ∀ w ∈ wq_law, w.before #[Value.ref b] s = true) {D : va_G} {kA : Nat → ClassId} {z : Nat} (hK : va_K D vwCl (tyL kA) s) (hG : gS z (fun q : Nat => s.heap.size ≤ q) s s.heap) {h0 a h1 q o od : Nat} {H : Heap} {locs : List Loc} {ls : Array Slot} (hP : va_P D vwCl [(h0, .inr (7, [.ref a, .int (nI 0), .int (nI 8), .int (nI 0), .int (nI 0), .int (nI 0), .int (nI 0)])), (a, .inl (kA 2, 4, .inr (.inr (.inr (.inr (fun _ => none)))))), (h1, .inr (11, [.int (nI 0), .ref q, .int (nI 8), .int (nI 0), .int (nI 0), .int (nI 0), .int (nI 0), .long 0])), (q, .inr (1, [.int (nI 0), .ref z, .int (nI 0)])), (o, .inl (kA 4, 1, .inr (.inl (fun _ => 0)))), (od, .inl (kA 5, 1, .inr (.inr (.inr (.inl (fun _ => 0))))))] H) (hD : va_D (fun q : Nat => s.heap.size ≤ q) [(h0, .inr (7, [.ref a, .int (nI 0), .int (nI 8), .int (nI 0), .int (nI 0), .int (nI 0), .int (nI 0)])), (a, .inl (kA 2, 4, .inr (.inr (.inr (.inr (fun _ => none)))))), (h1, .inr (11, [.int (nI 0), .ref q, .int (nI 8), .int (nI 0), .int (nI 0), .int (nI 0), .int (nI 0), .long 0])), (q, .inr (1, [.int (nI 0), .ref z, .int (nI 0)])), (o, .inl (kA 4, 1, .inr (.inl (fun _ => 0)))), (od, .inl (kA 5, 1, .inr (.inr (.inr (.inl (fun _ => 0))))))]) (hS : va_S (fun q : Nat => s.heap.size ≤ q) s.heap H locs) (hl : lv_has ls 9 [(5, .int (nI 0)), (4, .ref od), (3, .ref o), (2, .ref h1), (1, .ref h0), (0, .ref b)]) : W p l e room_1 s m #[Value.ref b] below meth c H locs 6 24 (lw_Z below #[Value.ref b] s) (F0 m 803 ls []) := by
  obtain ⟨hx, hb, hr, hml, hown, hts0, hX, hbl, hlocks, hgv⟩ := id C0
  have hA : ∀ q : Nat, s.heap.size ≤ q → (fun q : Nat => s.heap.size ≤ q) q := fun _ h => h
  have hbA : ¬ (fun q : Nat => s.heap.size ≤ q) b := Nat.not_le.mpr hbl
  generalize hAe : (fun q : Nat => s.heap.size ≤ q) = A at hD hS hA hbA hG
  refine lv_aload_n hx hb dL_law_803 rfl (lv_at hl 4 rfl) ?_
  refine lv_aload_n hx hb dL_law_804 rfl (lv_at hl 5 rfl) ?_
  refine lv_iload hx hb dL_law_805 (lv_at hl 0 rfl) ?_
  refine lv_iconst (v := nI 1) hx hb dL_law_807 (by decide) ?_
  refine lv_iadd hx hb dL_law_808 ?_
  rw [show nI 0 + nI 1 = nI 1 from by decide]
  refine va_sld hx hb hX hbl hbA hS (vp_in_nI (n := 1) (by decide) (by decide)) dL_law_809 ?_
  rw [nI_clamp (n := 1) (by decide)]
  refine lv_aload_n hx hb dL_law_810 rfl (lv_at hl 5 rfl) ?_
  refine lv_iload hx hb dL_law_811 (lv_at hl 0 rfl) ?_
  refine lv_iconst (v := nI 2) hx hb dL_law_813 (by decide) ?_
  refine lv_iadd hx hb dL_law_814 ?_
  rw [show nI 0 + nI 2 = nI 2 from by decide]
  refine va_sld hx hb hX hbl hbA hS (vp_in_nI (n := 2) (by decide) (by decide)) dL_law_815 ?_
  rw [nI_clamp (n := 2) (by decide)]
  refine lv_aload_n hx hb dL_law_816 rfl (lv_at hl 5 rfl) ?_
  refine lv_iload hx hb dL_law_817 (lv_at hl 0 rfl) ?_
  refine lv_iconst (v := nI 3) hx hb dL_law_819 (by decide) ?_
  refine lv_iadd hx hb dL_law_820 ?_
  rw [show nI 0 + nI 3 = nI 3 from by decide]
  refine va_sld hx hb hX hbl hbA hS (vp_in_nI (n := 3) (by decide) (by decide)) dL_law_821 ?_
  rw [nI_clamp (n := 3) (by decide)]
  refine lv_if_eq (tgt := 829) hx hb dL_law_822 (by decide) (fun c822 => ?_) (fun c822 => ?_)
  ·
    refine lv_iconst (v := nI 0) hx hb dL_law_829 (by decide) ?_
    refine lv_aload_n hx hb dL_law_830 rfl (lv_at hl 2 rfl) ?_
    have hF := va_free (wc := [(h0, .inr (7, [.ref a, .int (nI 0), .int (nI 8), .int (nI 0), .int (nI 0), .int (nI 0), .int (nI 0)])), (a, .inl (kA 2, 4, .inr (.inr (.inr (.inr (fun _ => none)))))), (o, .inl (kA 4, 1, .inr (.inl (fun _ => 0))))]) hD hS hA [0, 1, 4] rfl
    refine va_calli (vx_runSW (As := [.ref h0, .int (xs 1), .int (xs 2), .int (nI 0), .ref o]) (rest := []) ⟨hx, hb, hml, hown, hts⟩ (c_L_copy_e l D kA z hfl h0 a o (xs 1) (xs 2) (nI 0) (fun _ => 0)  _) (vx_cwSW 5 hts h_law_23 rfl rfl rfl (by decide +kernel) ⟨Nat.le_of_ble_eq_true rfl, Nat.le_of_ble_eq_true rfl⟩) (fPs hK hP hD hS hG hF [0, 1, 4] (by decide) rfl) rfl rfl hl.1 rfl (lv_room (Nat.le_of_ble_eq_true rfl)) dL_law_831 ⟨Nat.le_of_ble_eq_true rfl, Nat.le_of_ble_eq_true rfl⟩) hS (fun q _ h => hF q h) hF (fun r_1 w1 t H locs ht hvm hw hB hz1 hk1 hS => ?_)
    obtain ⟨hP, hD⟩ := fJ (wr := [(h1, .inr (11, [.int (nI 0), .ref q, .int (nI 8), .int (nI 0), .int (nI 0), .int (nI 0), .int (nI 0), .long 0])), (q, .inr (1, [.int (nI 0), .ref z, .int (nI 0)])), (od, .inl (kA 5, 1, .inr (.inr (.inr (.inl (fun _ => 0))))))]) hP hD [0, 1, 4] [2, 3, 5] rfl rfl (by decide) (by decide) hk1 hF ht hB
    try dsimp only at hw
    obtain ⟨rfl, e_1⟩ := hw
    replace e_1 := e_1.symm
    subst e_1
    have hP : va_P D vwCl [(h1, .inr (11, [.int (nI 0), .ref q, .int (nI 8), .int (nI 0), .int (nI 0), .int (nI 0), .int (nI 0), .long 0])), (q, .inr (1, [.int (nI 0), .ref z, .int (nI 0)])), (od, .inl (kA 5, 1, .inr (.inr (.inr (.inl (fun _ => 0)))))), (h0, .inr (7, [.ref a, .int (nI 0), .int (nI 8), .int (nI 0), .int (nI 0), .int (nI 0), .int (nI 0)])), (a, .inl (kA 2, 4, .inr (.inr (.inr (.inr (fun _ => none)))))), (o, .inl (kA 4, 1, .inr (.inl (fun _ => 0))))] H := hP
    have hD : va_D A [(h1, .inr (11, [.int (nI 0), .ref q, .int (nI 8), .int (nI 0), .int (nI 0), .int (nI 0), .int (nI 0), .long 0])), (q, .inr (1, [.int (nI 0), .ref z, .int (nI 0)])), (od, .inl (kA 5, 1, .inr (.inr (.inr (.inl (fun _ => 0)))))), (h0, .inr (7, [.ref a, .int (nI 0), .int (nI 8), .int (nI 0), .int (nI 0), .int (nI 0), .int (nI 0)])), (a, .inl (kA 2, 4, .inr (.inr (.inr (.inr (fun _ => none)))))), (o, .inl (kA 4, 1, .inr (.inl (fun _ => 0))))] := hD
    refine lv_istore (lv' := [(6, .int (nI 1)), (5, .int (nI 0)), (4, .ref od), (3, .ref o), (2, .ref h1), (1, .ref h0), (0, .ref b)]) hx hb dL_law_834 hl (by decide) rfl (fun ls hl => ?_)
    refine lv_aload_n hx hb dL_law_836 rfl (lv_at hl 4 rfl) ?_
    refine lv_aload_n hx hb dL_law_837 rfl (lv_at hl 6 rfl) ?_
    refine lv_iload hx hb dL_law_838 (lv_at hl 1 rfl) ?_
    refine lv_iconst (v := nI 1) hx hb dL_law_840 (by decide) ?_
    refine lv_iadd hx hb dL_law_841 ?_
    rw [show nI 0 + nI 1 = nI 1 from by decide]
    refine va_sld hx hb hX hbl hbA hS (vp_in_nI (n := 1) (by decide) (by decide)) dL_law_842 ?_
    rw [nI_clamp (n := 1) (by decide)]
    refine lv_aload_n hx hb dL_law_843 rfl (lv_at hl 6 rfl) ?_
    refine lv_iload hx hb dL_law_844 (lv_at hl 1 rfl) ?_
    refine lv_iconst (v := nI 2) hx hb dL_law_846 (by decide) ?_
    refine lv_iadd hx hb dL_law_847 ?_
    rw [show nI 0 + nI 2 = nI 2 from by decide]
    refine va_sld hx hb hX hbl hbA hS (vp_in_nI (n := 2) (by decide) (by decide)) dL_law_848 ?_
    rw [nI_clamp (n := 2) (by decide)]
    refine lv_aload_n hx hb dL_law_849 rfl (lv_at hl 6 rfl) ?_
    refine lv_iload hx hb dL_law_850 (lv_at hl 1 rfl) ?_
    refine lv_iconst (v := nI 3) hx hb dL_law_852 (by decide) ?_
    refine lv_iadd hx hb dL_law_853 ?_
    rw [show nI 0 + nI 3 = nI 3 from by decide]
    refine va_sld hx hb hX hbl hbA hS (vp_in_nI (n := 3) (by decide) (by decide)) dL_law_854 ?_
    rw [nI_clamp (n := 3) (by decide)]
    refine lv_if_eq (tgt := 862) hx hb dL_law_855 (by decide) (fun c855 => ?_) (fun c855 => ?_)
    ·
      refine lv_iconst (v := nI 0) hx hb dL_law_862 (by decide) ?_
      have hF := va_free (wc := [(h1, .inr (11, [.int (nI 0), .ref q, .int (nI 8), .int (nI 0), .int (nI 0), .int (nI 0), .int (nI 0), .long 0])), (q, .inr (1, [.int (nI 0), .ref z, .int (nI 0)]))]) hD hS hA [0, 1] rfl
      refine va_calli (va_runV (As := [.int (xs 1), .int (xs 2), .int (nI 0)]) (rest := []) ⟨hx, hb, hml, hown, hts⟩ (c_X10_copy_e l D kA z h1 q (nI 0) (xs 1) (xs 2) (nI 0)  _) (cwV 3 hts h_law_24 rfl rfl rfl (by decide +kernel) ⟨Nat.le_of_ble_eq_true rfl, Nat.le_of_ble_eq_true rfl⟩) (fPv hK hP hD hS hG hF [0, 1] (by decide) rfl 0 11 rfl rfl rfl) rfl rfl hl.1 rfl (lv_room (Nat.le_of_ble_eq_true rfl)) dL_law_863 ⟨Nat.le_of_ble_eq_true rfl, Nat.le_of_ble_eq_true rfl⟩) hS (fun q _ h => hF q h) hF (fun r_2 w1 t H locs ht hvm hw hB hz1 hk1 hS => ?_)
      obtain ⟨hP, hD⟩ := fJ (wr := [(od, .inl (kA 5, 1, .inr (.inr (.inr (.inl (fun _ => 0)))))), (h0, .inr (7, [.ref a, .int (nI 0), .int (nI 8), .int (nI 0), .int (nI 0), .int (nI 0), .int (nI 0)])), (a, .inl (kA 2, 4, .inr (.inr (.inr (.inr (fun _ => none)))))), (o, .inl (kA 4, 1, .inr (.inl (fun _ => 0))))]) hP hD [0, 1] [2, 3, 4, 5] rfl rfl (by decide) (by decide) hk1 hF ht hB
      try dsimp only at hw
      subst hw
      have hP : va_P D vwCl [(od, .inl (kA 5, 1, .inr (.inr (.inr (.inl (fun _ => 0)))))), (h0, .inr (7, [.ref a, .int (nI 0), .int (nI 8), .int (nI 0), .int (nI 0), .int (nI 0), .int (nI 0)])), (a, .inl (kA 2, 4, .inr (.inr (.inr (.inr (fun _ => none)))))), (o, .inl (kA 4, 1, .inr (.inl (fun _ => 0)))), (h1, .inr (11, [.int (nI 1), .ref q, .int (nI 8), .int (nI 0), .int (nI 0), .int (nI 0), .int (nI 0), .long 0])), (q, .inr (1, [.int (nI 0), .ref z, .int (nI 0)]))] H := hP
      have hD : va_D A [(od, .inl (kA 5, 1, .inr (.inr (.inr (.inl (fun _ => 0)))))), (h0, .inr (7, [.ref a, .int (nI 0), .int (nI 8), .int (nI 0), .int (nI 0), .int (nI 0), .int (nI 0)])), (a, .inl (kA 2, 4, .inr (.inr (.inr (.inr (fun _ => none)))))), (o, .inl (kA 4, 1, .inr (.inl (fun _ => 0)))), (h1, .inr (11, [.int (nI 1), .ref q, .int (nI 8), .int (nI 0), .int (nI 0), .int (nI 0), .int (nI 0), .long 0])), (q, .inr (1, [.int (nI 0), .ref z, .int (nI 0)]))] := hD
      refine lv_istore (lv' := [(7, .int r_2), (6, .int (nI 1)), (5, .int (nI 0)), (4, .ref od), (3, .ref o), (2, .ref h1), (1, .ref h0), (0, .ref b)]) hx hb dL_law_866 hl (by decide) rfl (fun ls hl => ?_)
      refine lv_aload_n hx hb dL_law_868 rfl (lv_at hl 5 rfl) ?_
      have hF := va_free (wc := [(h1, .inr (11, [.int (nI 1), .ref q, .int (nI 8), .int (nI 0), .int (nI 0), .int (nI 0), .int (nI 0), .long 0]))]) hD hS hA [4] rfl
      refine va_calli (va_runV (As := []) (rest := []) ⟨hx, hb, hml, hown, hts⟩ (c_X10_thrown l D kA z h1 q (nI 1) (nI 8) (nI 0) (nI 0) (nI 0) (nI 0) 0  _) (cwV 0 hts h_law_2 rfl rfl rfl (by decide +kernel) ⟨Nat.le_of_ble_eq_true rfl, Nat.le_of_ble_eq_true rfl⟩) (fPv hK hP hD hS hG hF [4] (by decide) rfl 4 11 rfl rfl rfl) rfl rfl hl.1 rfl (lv_room (Nat.le_of_ble_eq_true rfl)) dL_law_869 ⟨Nat.le_of_ble_eq_true rfl, Nat.le_of_ble_eq_true rfl⟩) hS (fun q _ h => hF q h) hF (fun r_3 w1 t H locs ht hvm hw hB hz1 hk1 hS => ?_)
      obtain ⟨hP, hD⟩ := fJ (wr := [(od, .inl (kA 5, 1, .inr (.inr (.inr (.inl (fun _ => 0)))))), (h0, .inr (7, [.ref a, .int (nI 0), .int (nI 8), .int (nI 0), .int (nI 0), .int (nI 0), .int (nI 0)])), (a, .inl (kA 2, 4, .inr (.inr (.inr (.inr (fun _ => none)))))), (o, .inl (kA 4, 1, .inr (.inl (fun _ => 0)))), (q, .inr (1, [.int (nI 0), .ref z, .int (nI 0)]))]) hP hD [4] [0, 1, 2, 3, 5] rfl rfl (by decide) (by decide) hk1 hF ht hB
      try dsimp only at hw
      obtain ⟨rfl, e_2⟩ := hw
      replace e_2 := e_2.symm
      subst e_2
      have hP : va_P D vwCl [(od, .inl (kA 5, 1, .inr (.inr (.inr (.inl (fun _ => 0)))))), (h0, .inr (7, [.ref a, .int (nI 0), .int (nI 8), .int (nI 0), .int (nI 0), .int (nI 0), .int (nI 0)])), (a, .inl (kA 2, 4, .inr (.inr (.inr (.inr (fun _ => none)))))), (o, .inl (kA 4, 1, .inr (.inl (fun _ => 0)))), (q, .inr (1, [.int (nI 0), .ref z, .int (nI 0)])), (h1, .inr (11, [.int (nI 1), .ref q, .int (nI 8), .int (nI 0), .int (nI 0), .int (nI 0), .int (nI 0), .long 0]))] H := hP
      have hD : va_D A [(od, .inl (kA 5, 1, .inr (.inr (.inr (.inl (fun _ => 0)))))), (h0, .inr (7, [.ref a, .int (nI 0), .int (nI 8), .int (nI 0), .int (nI 0), .int (nI 0), .int (nI 0)])), (a, .inl (kA 2, 4, .inr (.inr (.inr (.inr (fun _ => none)))))), (o, .inl (kA 4, 1, .inr (.inl (fun _ => 0)))), (q, .inr (1, [.int (nI 0), .ref z, .int (nI 0)])), (h1, .inr (11, [.int (nI 1), .ref q, .int (nI 8), .int (nI 0), .int (nI 0), .int (nI 0), .int (nI 0), .long 0]))] := hD
      refine lv_iload hx hb dL_law_872 (lv_at hl 1 rfl) ?_
      refine lv_icmp_eq (tgt := 879) hx hb dL_law_874 (by decide) (fun _ => ?_) (fun c874 => absurd (by decide) c874)
      refine lv_iload hx hb dL_law_879 (lv_at hl 1 rfl) ?_
      refine lv_if_ne (tgt := 896) hx hb dL_law_881 (by decide) (fun _ => ?_) (fun c881 => absurd c881 (by decide))
      refine lv_goto (tgt := 1775) hx hb dL_law_896 (by decide) ?_
      subst hAe
      exact law_tail C0 hS (lv_sub hl [2, 7] rfl) (Nat.le_of_ble_eq_true rfl) (Nat.le_of_ble_eq_true rfl)
    ·
      refine lv_iconst (v := nI 1) hx hb dL_law_858 (by decide) ?_
      refine lv_goto (tgt := 863) hx hb dL_law_859 (by decide) ?_
      have hF := va_free (wc := [(h1, .inr (11, [.int (nI 0), .ref q, .int (nI 8), .int (nI 0), .int (nI 0), .int (nI 0), .int (nI 0), .long 0])), (q, .inr (1, [.int (nI 0), .ref z, .int (nI 0)]))]) hD hS hA [0, 1] rfl
      refine va_calli (va_runV (As := [.int (xs 1), .int (xs 2), .int (nI 1)]) (rest := []) ⟨hx, hb, hml, hown, hts⟩ (c_X10_copy_e l D kA z h1 q (nI 0) (xs 1) (xs 2) (nI 1)  _) (cwV 3 hts h_law_24 rfl rfl rfl (by decide +kernel) ⟨Nat.le_of_ble_eq_true rfl, Nat.le_of_ble_eq_true rfl⟩) (fPv hK hP hD hS hG hF [0, 1] (by decide) rfl 0 11 rfl rfl rfl) rfl rfl hl.1 rfl (lv_room (Nat.le_of_ble_eq_true rfl)) dL_law_863 ⟨Nat.le_of_ble_eq_true rfl, Nat.le_of_ble_eq_true rfl⟩) hS (fun q _ h => hF q h) hF (fun r_4 w1 t H locs ht hvm hw hB hz1 hk1 hS => ?_)
      obtain ⟨hP, hD⟩ := fJ (wr := [(od, .inl (kA 5, 1, .inr (.inr (.inr (.inl (fun _ => 0)))))), (h0, .inr (7, [.ref a, .int (nI 0), .int (nI 8), .int (nI 0), .int (nI 0), .int (nI 0), .int (nI 0)])), (a, .inl (kA 2, 4, .inr (.inr (.inr (.inr (fun _ => none)))))), (o, .inl (kA 4, 1, .inr (.inl (fun _ => 0))))]) hP hD [0, 1] [2, 3, 4, 5] rfl rfl (by decide) (by decide) hk1 hF ht hB
      try dsimp only at hw
      subst hw
      have hP : va_P D vwCl [(od, .inl (kA 5, 1, .inr (.inr (.inr (.inl (fun _ => 0)))))), (h0, .inr (7, [.ref a, .int (nI 0), .int (nI 8), .int (nI 0), .int (nI 0), .int (nI 0), .int (nI 0)])), (a, .inl (kA 2, 4, .inr (.inr (.inr (.inr (fun _ => none)))))), (o, .inl (kA 4, 1, .inr (.inl (fun _ => 0)))), (h1, .inr (11, [.int (nI 1), .ref q, .int (nI 8), .int (nI 0), .int (nI 0), .int (nI 0), .int (nI 0), .long 0])), (q, .inr (1, [.int (nI 0), .ref z, .int (nI 0)]))] H := hP
      have hD : va_D A [(od, .inl (kA 5, 1, .inr (.inr (.inr (.inl (fun _ => 0)))))), (h0, .inr (7, [.ref a, .int (nI 0), .int (nI 8), .int (nI 0), .int (nI 0), .int (nI 0), .int (nI 0)])), (a, .inl (kA 2, 4, .inr (.inr (.inr (.inr (fun _ => none)))))), (o, .inl (kA 4, 1, .inr (.inl (fun _ => 0)))), (h1, .inr (11, [.int (nI 1), .ref q, .int (nI 8), .int (nI 0), .int (nI 0), .int (nI 0), .int (nI 0), .long 0])), (q, .inr (1, [.int (nI 0), .ref z, .int (nI 0)]))] := hD
      refine lv_istore (lv' := [(7, .int r_4), (6, .int (nI 1)), (5, .int (nI 0)), (4, .ref od), (3, .ref o), (2, .ref h1), (1, .ref h0), (0, .ref b)]) hx hb dL_law_866 hl (by decide) rfl (fun ls hl => ?_)
      refine lv_aload_n hx hb dL_law_868 rfl (lv_at hl 5 rfl) ?_
      have hF := va_free (wc := [(h1, .inr (11, [.int (nI 1), .ref q, .int (nI 8), .int (nI 0), .int (nI 0), .int (nI 0), .int (nI 0), .long 0]))]) hD hS hA [4] rfl
      refine va_calli (va_runV (As := []) (rest := []) ⟨hx, hb, hml, hown, hts⟩ (c_X10_thrown l D kA z h1 q (nI 1) (nI 8) (nI 0) (nI 0) (nI 0) (nI 0) 0  _) (cwV 0 hts h_law_2 rfl rfl rfl (by decide +kernel) ⟨Nat.le_of_ble_eq_true rfl, Nat.le_of_ble_eq_true rfl⟩) (fPv hK hP hD hS hG hF [4] (by decide) rfl 4 11 rfl rfl rfl) rfl rfl hl.1 rfl (lv_room (Nat.le_of_ble_eq_true rfl)) dL_law_869 ⟨Nat.le_of_ble_eq_true rfl, Nat.le_of_ble_eq_true rfl⟩) hS (fun q _ h => hF q h) hF (fun r_5 w1 t H locs ht hvm hw hB hz1 hk1 hS => ?_)
      obtain ⟨hP, hD⟩ := fJ (wr := [(od, .inl (kA 5, 1, .inr (.inr (.inr (.inl (fun _ => 0)))))), (h0, .inr (7, [.ref a, .int (nI 0), .int (nI 8), .int (nI 0), .int (nI 0), .int (nI 0), .int (nI 0)])), (a, .inl (kA 2, 4, .inr (.inr (.inr (.inr (fun _ => none)))))), (o, .inl (kA 4, 1, .inr (.inl (fun _ => 0)))), (q, .inr (1, [.int (nI 0), .ref z, .int (nI 0)]))]) hP hD [4] [0, 1, 2, 3, 5] rfl rfl (by decide) (by decide) hk1 hF ht hB
      try dsimp only at hw
      obtain ⟨rfl, e_3⟩ := hw
      replace e_3 := e_3.symm
      subst e_3
      have hP : va_P D vwCl [(od, .inl (kA 5, 1, .inr (.inr (.inr (.inl (fun _ => 0)))))), (h0, .inr (7, [.ref a, .int (nI 0), .int (nI 8), .int (nI 0), .int (nI 0), .int (nI 0), .int (nI 0)])), (a, .inl (kA 2, 4, .inr (.inr (.inr (.inr (fun _ => none)))))), (o, .inl (kA 4, 1, .inr (.inl (fun _ => 0)))), (q, .inr (1, [.int (nI 0), .ref z, .int (nI 0)])), (h1, .inr (11, [.int (nI 1), .ref q, .int (nI 8), .int (nI 0), .int (nI 0), .int (nI 0), .int (nI 0), .long 0]))] H := hP
      have hD : va_D A [(od, .inl (kA 5, 1, .inr (.inr (.inr (.inl (fun _ => 0)))))), (h0, .inr (7, [.ref a, .int (nI 0), .int (nI 8), .int (nI 0), .int (nI 0), .int (nI 0), .int (nI 0)])), (a, .inl (kA 2, 4, .inr (.inr (.inr (.inr (fun _ => none)))))), (o, .inl (kA 4, 1, .inr (.inl (fun _ => 0)))), (q, .inr (1, [.int (nI 0), .ref z, .int (nI 0)])), (h1, .inr (11, [.int (nI 1), .ref q, .int (nI 8), .int (nI 0), .int (nI 0), .int (nI 0), .int (nI 0), .long 0]))] := hD
      refine lv_iload hx hb dL_law_872 (lv_at hl 1 rfl) ?_
      refine lv_icmp_eq (tgt := 879) hx hb dL_law_874 (by decide) (fun _ => ?_) (fun c874 => absurd (by decide) c874)
      refine lv_iload hx hb dL_law_879 (lv_at hl 1 rfl) ?_
      refine lv_if_ne (tgt := 896) hx hb dL_law_881 (by decide) (fun _ => ?_) (fun c881 => absurd c881 (by decide))
      refine lv_goto (tgt := 1775) hx hb dL_law_896 (by decide) ?_
      subst hAe
      exact law_tail C0 hS (lv_sub hl [2, 7] rfl) (Nat.le_of_ble_eq_true rfl) (Nat.le_of_ble_eq_true rfl)
  ·
    refine lv_iconst (v := nI 1) hx hb dL_law_825 (by decide) ?_
    refine lv_goto (tgt := 830) hx hb dL_law_826 (by decide) ?_
    refine lv_aload_n hx hb dL_law_830 rfl (lv_at hl 2 rfl) ?_
    have hF := va_free (wc := [(h0, .inr (7, [.ref a, .int (nI 0), .int (nI 8), .int (nI 0), .int (nI 0), .int (nI 0), .int (nI 0)])), (a, .inl (kA 2, 4, .inr (.inr (.inr (.inr (fun _ => none)))))), (o, .inl (kA 4, 1, .inr (.inl (fun _ => 0))))]) hD hS hA [0, 1, 4] rfl
    refine va_calli (vx_runSW (As := [.ref h0, .int (xs 1), .int (xs 2), .int (nI 1), .ref o]) (rest := []) ⟨hx, hb, hml, hown, hts⟩ (c_L_copy_e l D kA z hfl h0 a o (xs 1) (xs 2) (nI 1) (fun _ => 0)  _) (vx_cwSW 5 hts h_law_23 rfl rfl rfl (by decide +kernel) ⟨Nat.le_of_ble_eq_true rfl, Nat.le_of_ble_eq_true rfl⟩) (fPs hK hP hD hS hG hF [0, 1, 4] (by decide) rfl) rfl rfl hl.1 rfl (lv_room (Nat.le_of_ble_eq_true rfl)) dL_law_831 ⟨Nat.le_of_ble_eq_true rfl, Nat.le_of_ble_eq_true rfl⟩) hS (fun q _ h => hF q h) hF (fun r_6 w1 t H locs ht hvm hw hB hz1 hk1 hS => ?_)
    obtain ⟨hP, hD⟩ := fJ (wr := [(h1, .inr (11, [.int (nI 0), .ref q, .int (nI 8), .int (nI 0), .int (nI 0), .int (nI 0), .int (nI 0), .long 0])), (q, .inr (1, [.int (nI 0), .ref z, .int (nI 0)])), (od, .inl (kA 5, 1, .inr (.inr (.inr (.inl (fun _ => 0))))))]) hP hD [0, 1, 4] [2, 3, 5] rfl rfl (by decide) (by decide) hk1 hF ht hB
    try dsimp only at hw
    obtain ⟨rfl, e_4⟩ := hw
    replace e_4 := e_4.symm
    subst e_4
    have hP : va_P D vwCl [(h1, .inr (11, [.int (nI 0), .ref q, .int (nI 8), .int (nI 0), .int (nI 0), .int (nI 0), .int (nI 0), .long 0])), (q, .inr (1, [.int (nI 0), .ref z, .int (nI 0)])), (od, .inl (kA 5, 1, .inr (.inr (.inr (.inl (fun _ => 0)))))), (h0, .inr (7, [.ref a, .int (nI 0), .int (nI 8), .int (nI 0), .int (nI 0), .int (nI 0), .int (nI 0)])), (a, .inl (kA 2, 4, .inr (.inr (.inr (.inr (fun _ => none)))))), (o, .inl (kA 4, 1, .inr (.inl (fun _ => 0))))] H := hP
    have hD : va_D A [(h1, .inr (11, [.int (nI 0), .ref q, .int (nI 8), .int (nI 0), .int (nI 0), .int (nI 0), .int (nI 0), .long 0])), (q, .inr (1, [.int (nI 0), .ref z, .int (nI 0)])), (od, .inl (kA 5, 1, .inr (.inr (.inr (.inl (fun _ => 0)))))), (h0, .inr (7, [.ref a, .int (nI 0), .int (nI 8), .int (nI 0), .int (nI 0), .int (nI 0), .int (nI 0)])), (a, .inl (kA 2, 4, .inr (.inr (.inr (.inr (fun _ => none)))))), (o, .inl (kA 4, 1, .inr (.inl (fun _ => 0))))] := hD
    refine lv_istore (lv' := [(6, .int (nI 1)), (5, .int (nI 0)), (4, .ref od), (3, .ref o), (2, .ref h1), (1, .ref h0), (0, .ref b)]) hx hb dL_law_834 hl (by decide) rfl (fun ls hl => ?_)
    refine lv_aload_n hx hb dL_law_836 rfl (lv_at hl 4 rfl) ?_
    refine lv_aload_n hx hb dL_law_837 rfl (lv_at hl 6 rfl) ?_
    refine lv_iload hx hb dL_law_838 (lv_at hl 1 rfl) ?_
    refine lv_iconst (v := nI 1) hx hb dL_law_840 (by decide) ?_
    refine lv_iadd hx hb dL_law_841 ?_
    rw [show nI 0 + nI 1 = nI 1 from by decide]
    refine va_sld hx hb hX hbl hbA hS (vp_in_nI (n := 1) (by decide) (by decide)) dL_law_842 ?_
    rw [nI_clamp (n := 1) (by decide)]
    refine lv_aload_n hx hb dL_law_843 rfl (lv_at hl 6 rfl) ?_
    refine lv_iload hx hb dL_law_844 (lv_at hl 1 rfl) ?_
    refine lv_iconst (v := nI 2) hx hb dL_law_846 (by decide) ?_
    refine lv_iadd hx hb dL_law_847 ?_
    rw [show nI 0 + nI 2 = nI 2 from by decide]
    refine va_sld hx hb hX hbl hbA hS (vp_in_nI (n := 2) (by decide) (by decide)) dL_law_848 ?_
    rw [nI_clamp (n := 2) (by decide)]
    refine lv_aload_n hx hb dL_law_849 rfl (lv_at hl 6 rfl) ?_
    refine lv_iload hx hb dL_law_850 (lv_at hl 1 rfl) ?_
    refine lv_iconst (v := nI 3) hx hb dL_law_852 (by decide) ?_
    refine lv_iadd hx hb dL_law_853 ?_
    rw [show nI 0 + nI 3 = nI 3 from by decide]
    refine va_sld hx hb hX hbl hbA hS (vp_in_nI (n := 3) (by decide) (by decide)) dL_law_854 ?_
    rw [nI_clamp (n := 3) (by decide)]
    refine lv_if_eq (tgt := 862) hx hb dL_law_855 (by decide) (fun c855 => ?_) (fun c855 => ?_)
    ·
      refine lv_iconst (v := nI 0) hx hb dL_law_862 (by decide) ?_
      have hF := va_free (wc := [(h1, .inr (11, [.int (nI 0), .ref q, .int (nI 8), .int (nI 0), .int (nI 0), .int (nI 0), .int (nI 0), .long 0])), (q, .inr (1, [.int (nI 0), .ref z, .int (nI 0)]))]) hD hS hA [0, 1] rfl
      refine va_calli (va_runV (As := [.int (xs 1), .int (xs 2), .int (nI 0)]) (rest := []) ⟨hx, hb, hml, hown, hts⟩ (c_X10_copy_e l D kA z h1 q (nI 0) (xs 1) (xs 2) (nI 0)  _) (cwV 3 hts h_law_24 rfl rfl rfl (by decide +kernel) ⟨Nat.le_of_ble_eq_true rfl, Nat.le_of_ble_eq_true rfl⟩) (fPv hK hP hD hS hG hF [0, 1] (by decide) rfl 0 11 rfl rfl rfl) rfl rfl hl.1 rfl (lv_room (Nat.le_of_ble_eq_true rfl)) dL_law_863 ⟨Nat.le_of_ble_eq_true rfl, Nat.le_of_ble_eq_true rfl⟩) hS (fun q _ h => hF q h) hF (fun r_7 w1 t H locs ht hvm hw hB hz1 hk1 hS => ?_)
      obtain ⟨hP, hD⟩ := fJ (wr := [(od, .inl (kA 5, 1, .inr (.inr (.inr (.inl (fun _ => 0)))))), (h0, .inr (7, [.ref a, .int (nI 0), .int (nI 8), .int (nI 0), .int (nI 0), .int (nI 0), .int (nI 0)])), (a, .inl (kA 2, 4, .inr (.inr (.inr (.inr (fun _ => none)))))), (o, .inl (kA 4, 1, .inr (.inl (fun _ => 0))))]) hP hD [0, 1] [2, 3, 4, 5] rfl rfl (by decide) (by decide) hk1 hF ht hB
      try dsimp only at hw
      subst hw
      have hP : va_P D vwCl [(od, .inl (kA 5, 1, .inr (.inr (.inr (.inl (fun _ => 0)))))), (h0, .inr (7, [.ref a, .int (nI 0), .int (nI 8), .int (nI 0), .int (nI 0), .int (nI 0), .int (nI 0)])), (a, .inl (kA 2, 4, .inr (.inr (.inr (.inr (fun _ => none)))))), (o, .inl (kA 4, 1, .inr (.inl (fun _ => 0)))), (h1, .inr (11, [.int (nI 1), .ref q, .int (nI 8), .int (nI 0), .int (nI 0), .int (nI 0), .int (nI 0), .long 0])), (q, .inr (1, [.int (nI 0), .ref z, .int (nI 0)]))] H := hP
      have hD : va_D A [(od, .inl (kA 5, 1, .inr (.inr (.inr (.inl (fun _ => 0)))))), (h0, .inr (7, [.ref a, .int (nI 0), .int (nI 8), .int (nI 0), .int (nI 0), .int (nI 0), .int (nI 0)])), (a, .inl (kA 2, 4, .inr (.inr (.inr (.inr (fun _ => none)))))), (o, .inl (kA 4, 1, .inr (.inl (fun _ => 0)))), (h1, .inr (11, [.int (nI 1), .ref q, .int (nI 8), .int (nI 0), .int (nI 0), .int (nI 0), .int (nI 0), .long 0])), (q, .inr (1, [.int (nI 0), .ref z, .int (nI 0)]))] := hD
      refine lv_istore (lv' := [(7, .int r_7), (6, .int (nI 1)), (5, .int (nI 0)), (4, .ref od), (3, .ref o), (2, .ref h1), (1, .ref h0), (0, .ref b)]) hx hb dL_law_866 hl (by decide) rfl (fun ls hl => ?_)
      refine lv_aload_n hx hb dL_law_868 rfl (lv_at hl 5 rfl) ?_
      have hF := va_free (wc := [(h1, .inr (11, [.int (nI 1), .ref q, .int (nI 8), .int (nI 0), .int (nI 0), .int (nI 0), .int (nI 0), .long 0]))]) hD hS hA [4] rfl
      refine va_calli (va_runV (As := []) (rest := []) ⟨hx, hb, hml, hown, hts⟩ (c_X10_thrown l D kA z h1 q (nI 1) (nI 8) (nI 0) (nI 0) (nI 0) (nI 0) 0  _) (cwV 0 hts h_law_2 rfl rfl rfl (by decide +kernel) ⟨Nat.le_of_ble_eq_true rfl, Nat.le_of_ble_eq_true rfl⟩) (fPv hK hP hD hS hG hF [4] (by decide) rfl 4 11 rfl rfl rfl) rfl rfl hl.1 rfl (lv_room (Nat.le_of_ble_eq_true rfl)) dL_law_869 ⟨Nat.le_of_ble_eq_true rfl, Nat.le_of_ble_eq_true rfl⟩) hS (fun q _ h => hF q h) hF (fun r_8 w1 t H locs ht hvm hw hB hz1 hk1 hS => ?_)
      obtain ⟨hP, hD⟩ := fJ (wr := [(od, .inl (kA 5, 1, .inr (.inr (.inr (.inl (fun _ => 0)))))), (h0, .inr (7, [.ref a, .int (nI 0), .int (nI 8), .int (nI 0), .int (nI 0), .int (nI 0), .int (nI 0)])), (a, .inl (kA 2, 4, .inr (.inr (.inr (.inr (fun _ => none)))))), (o, .inl (kA 4, 1, .inr (.inl (fun _ => 0)))), (q, .inr (1, [.int (nI 0), .ref z, .int (nI 0)]))]) hP hD [4] [0, 1, 2, 3, 5] rfl rfl (by decide) (by decide) hk1 hF ht hB
      try dsimp only at hw
      obtain ⟨rfl, e_5⟩ := hw
      replace e_5 := e_5.symm
      subst e_5
      have hP : va_P D vwCl [(od, .inl (kA 5, 1, .inr (.inr (.inr (.inl (fun _ => 0)))))), (h0, .inr (7, [.ref a, .int (nI 0), .int (nI 8), .int (nI 0), .int (nI 0), .int (nI 0), .int (nI 0)])), (a, .inl (kA 2, 4, .inr (.inr (.inr (.inr (fun _ => none)))))), (o, .inl (kA 4, 1, .inr (.inl (fun _ => 0)))), (q, .inr (1, [.int (nI 0), .ref z, .int (nI 0)])), (h1, .inr (11, [.int (nI 1), .ref q, .int (nI 8), .int (nI 0), .int (nI 0), .int (nI 0), .int (nI 0), .long 0]))] H := hP
      have hD : va_D A [(od, .inl (kA 5, 1, .inr (.inr (.inr (.inl (fun _ => 0)))))), (h0, .inr (7, [.ref a, .int (nI 0), .int (nI 8), .int (nI 0), .int (nI 0), .int (nI 0), .int (nI 0)])), (a, .inl (kA 2, 4, .inr (.inr (.inr (.inr (fun _ => none)))))), (o, .inl (kA 4, 1, .inr (.inl (fun _ => 0)))), (q, .inr (1, [.int (nI 0), .ref z, .int (nI 0)])), (h1, .inr (11, [.int (nI 1), .ref q, .int (nI 8), .int (nI 0), .int (nI 0), .int (nI 0), .int (nI 0), .long 0]))] := hD
      refine lv_iload hx hb dL_law_872 (lv_at hl 1 rfl) ?_
      refine lv_icmp_eq (tgt := 879) hx hb dL_law_874 (by decide) (fun _ => ?_) (fun c874 => absurd (by decide) c874)
      refine lv_iload hx hb dL_law_879 (lv_at hl 1 rfl) ?_
      refine lv_if_ne (tgt := 896) hx hb dL_law_881 (by decide) (fun _ => ?_) (fun c881 => absurd c881 (by decide))
      refine lv_goto (tgt := 1775) hx hb dL_law_896 (by decide) ?_
      subst hAe
      exact law_tail C0 hS (lv_sub hl [2, 7] rfl) (Nat.le_of_ble_eq_true rfl) (Nat.le_of_ble_eq_true rfl)
    ·
      refine lv_iconst (v := nI 1) hx hb dL_law_858 (by decide) ?_
      refine lv_goto (tgt := 863) hx hb dL_law_859 (by decide) ?_
      have hF := va_free (wc := [(h1, .inr (11, [.int (nI 0), .ref q, .int (nI 8), .int (nI 0), .int (nI 0), .int (nI 0), .int (nI 0), .long 0])), (q, .inr (1, [.int (nI 0), .ref z, .int (nI 0)]))]) hD hS hA [0, 1] rfl
      refine va_calli (va_runV (As := [.int (xs 1), .int (xs 2), .int (nI 1)]) (rest := []) ⟨hx, hb, hml, hown, hts⟩ (c_X10_copy_e l D kA z h1 q (nI 0) (xs 1) (xs 2) (nI 1)  _) (cwV 3 hts h_law_24 rfl rfl rfl (by decide +kernel) ⟨Nat.le_of_ble_eq_true rfl, Nat.le_of_ble_eq_true rfl⟩) (fPv hK hP hD hS hG hF [0, 1] (by decide) rfl 0 11 rfl rfl rfl) rfl rfl hl.1 rfl (lv_room (Nat.le_of_ble_eq_true rfl)) dL_law_863 ⟨Nat.le_of_ble_eq_true rfl, Nat.le_of_ble_eq_true rfl⟩) hS (fun q _ h => hF q h) hF (fun r_9 w1 t H locs ht hvm hw hB hz1 hk1 hS => ?_)
      obtain ⟨hP, hD⟩ := fJ (wr := [(od, .inl (kA 5, 1, .inr (.inr (.inr (.inl (fun _ => 0)))))), (h0, .inr (7, [.ref a, .int (nI 0), .int (nI 8), .int (nI 0), .int (nI 0), .int (nI 0), .int (nI 0)])), (a, .inl (kA 2, 4, .inr (.inr (.inr (.inr (fun _ => none)))))), (o, .inl (kA 4, 1, .inr (.inl (fun _ => 0))))]) hP hD [0, 1] [2, 3, 4, 5] rfl rfl (by decide) (by decide) hk1 hF ht hB
      try dsimp only at hw
      subst hw
      have hP : va_P D vwCl [(od, .inl (kA 5, 1, .inr (.inr (.inr (.inl (fun _ => 0)))))), (h0, .inr (7, [.ref a, .int (nI 0), .int (nI 8), .int (nI 0), .int (nI 0), .int (nI 0), .int (nI 0)])), (a, .inl (kA 2, 4, .inr (.inr (.inr (.inr (fun _ => none)))))), (o, .inl (kA 4, 1, .inr (.inl (fun _ => 0)))), (h1, .inr (11, [.int (nI 1), .ref q, .int (nI 8), .int (nI 0), .int (nI 0), .int (nI 0), .int (nI 0), .long 0])), (q, .inr (1, [.int (nI 0), .ref z, .int (nI 0)]))] H := hP
      have hD : va_D A [(od, .inl (kA 5, 1, .inr (.inr (.inr (.inl (fun _ => 0)))))), (h0, .inr (7, [.ref a, .int (nI 0), .int (nI 8), .int (nI 0), .int (nI 0), .int (nI 0), .int (nI 0)])), (a, .inl (kA 2, 4, .inr (.inr (.inr (.inr (fun _ => none)))))), (o, .inl (kA 4, 1, .inr (.inl (fun _ => 0)))), (h1, .inr (11, [.int (nI 1), .ref q, .int (nI 8), .int (nI 0), .int (nI 0), .int (nI 0), .int (nI 0), .long 0])), (q, .inr (1, [.int (nI 0), .ref z, .int (nI 0)]))] := hD
      refine lv_istore (lv' := [(7, .int r_9), (6, .int (nI 1)), (5, .int (nI 0)), (4, .ref od), (3, .ref o), (2, .ref h1), (1, .ref h0), (0, .ref b)]) hx hb dL_law_866 hl (by decide) rfl (fun ls hl => ?_)
      refine lv_aload_n hx hb dL_law_868 rfl (lv_at hl 5 rfl) ?_
      have hF := va_free (wc := [(h1, .inr (11, [.int (nI 1), .ref q, .int (nI 8), .int (nI 0), .int (nI 0), .int (nI 0), .int (nI 0), .long 0]))]) hD hS hA [4] rfl
      refine va_calli (va_runV (As := []) (rest := []) ⟨hx, hb, hml, hown, hts⟩ (c_X10_thrown l D kA z h1 q (nI 1) (nI 8) (nI 0) (nI 0) (nI 0) (nI 0) 0  _) (cwV 0 hts h_law_2 rfl rfl rfl (by decide +kernel) ⟨Nat.le_of_ble_eq_true rfl, Nat.le_of_ble_eq_true rfl⟩) (fPv hK hP hD hS hG hF [4] (by decide) rfl 4 11 rfl rfl rfl) rfl rfl hl.1 rfl (lv_room (Nat.le_of_ble_eq_true rfl)) dL_law_869 ⟨Nat.le_of_ble_eq_true rfl, Nat.le_of_ble_eq_true rfl⟩) hS (fun q _ h => hF q h) hF (fun r_10 w1 t H locs ht hvm hw hB hz1 hk1 hS => ?_)
      obtain ⟨hP, hD⟩ := fJ (wr := [(od, .inl (kA 5, 1, .inr (.inr (.inr (.inl (fun _ => 0)))))), (h0, .inr (7, [.ref a, .int (nI 0), .int (nI 8), .int (nI 0), .int (nI 0), .int (nI 0), .int (nI 0)])), (a, .inl (kA 2, 4, .inr (.inr (.inr (.inr (fun _ => none)))))), (o, .inl (kA 4, 1, .inr (.inl (fun _ => 0)))), (q, .inr (1, [.int (nI 0), .ref z, .int (nI 0)]))]) hP hD [4] [0, 1, 2, 3, 5] rfl rfl (by decide) (by decide) hk1 hF ht hB
      try dsimp only at hw
      obtain ⟨rfl, e_6⟩ := hw
      replace e_6 := e_6.symm
      subst e_6
      have hP : va_P D vwCl [(od, .inl (kA 5, 1, .inr (.inr (.inr (.inl (fun _ => 0)))))), (h0, .inr (7, [.ref a, .int (nI 0), .int (nI 8), .int (nI 0), .int (nI 0), .int (nI 0), .int (nI 0)])), (a, .inl (kA 2, 4, .inr (.inr (.inr (.inr (fun _ => none)))))), (o, .inl (kA 4, 1, .inr (.inl (fun _ => 0)))), (q, .inr (1, [.int (nI 0), .ref z, .int (nI 0)])), (h1, .inr (11, [.int (nI 1), .ref q, .int (nI 8), .int (nI 0), .int (nI 0), .int (nI 0), .int (nI 0), .long 0]))] H := hP
      have hD : va_D A [(od, .inl (kA 5, 1, .inr (.inr (.inr (.inl (fun _ => 0)))))), (h0, .inr (7, [.ref a, .int (nI 0), .int (nI 8), .int (nI 0), .int (nI 0), .int (nI 0), .int (nI 0)])), (a, .inl (kA 2, 4, .inr (.inr (.inr (.inr (fun _ => none)))))), (o, .inl (kA 4, 1, .inr (.inl (fun _ => 0)))), (q, .inr (1, [.int (nI 0), .ref z, .int (nI 0)])), (h1, .inr (11, [.int (nI 1), .ref q, .int (nI 8), .int (nI 0), .int (nI 0), .int (nI 0), .int (nI 0), .long 0]))] := hD
      refine lv_iload hx hb dL_law_872 (lv_at hl 1 rfl) ?_
      refine lv_icmp_eq (tgt := 879) hx hb dL_law_874 (by decide) (fun _ => ?_) (fun c874 => absurd (by decide) c874)
      refine lv_iload hx hb dL_law_879 (lv_at hl 1 rfl) ?_
      refine lv_if_ne (tgt := 896) hx hb dL_law_881 (by decide) (fun _ => ?_) (fun c881 => absurd c881 (by decide))
      refine lv_goto (tgt := 1775) hx hb dL_law_896 (by decide) ?_
      subst hAe
      exact law_tail C0 hS (lv_sub hl [2, 7] rfl) (Nat.le_of_ble_eq_true rfl) (Nat.le_of_ble_eq_true rfl)

set_option maxHeartbeats 16000000 in
set_option maxRecDepth 100000 in
theorem law_case10 {p : Program} {e : Env} {s : State} {m : MethodId} {below : List Frame} {meth : Method} {c : Code} {l : Launch} {b : Nat} {xs : Nat → Int32} (hfl : l.stackTraces = false) (C0 : lw_At p s m meth c b 6 xs) (hts : ∀ w ∈ wq_law, w.before #[Value.ref b] s = true) {D : va_G} {kA : Nat → ClassId} {z : Nat} (hK : va_K D vwCl (tyL kA) s) (hG : gS z (fun q : Nat => s.heap.size ≤ q) s s.heap) {h0 a h1 q o od : Nat} {H : Heap} {locs : List Loc} {ls : Array Slot} (hP : va_P D vwCl [(h0, .inr (7, [.ref a, .int (nI 0), .int (nI 8), .int (nI 0), .int (nI 0), .int (nI 0), .int (nI 0)])), (a, .inl (kA 2, 4, .inr (.inr (.inr (.inr (fun _ => none)))))), (h1, .inr (11, [.int (nI 0), .ref q, .int (nI 8), .int (nI 0), .int (nI 0), .int (nI 0), .int (nI 0), .long 0])), (q, .inr (1, [.int (nI 0), .ref z, .int (nI 0)])), (o, .inl (kA 4, 1, .inr (.inl (fun _ => 0)))), (od, .inl (kA 5, 1, .inr (.inr (.inr (.inl (fun _ => 0))))))] H) (hD : va_D (fun q : Nat => s.heap.size ≤ q) [(h0, .inr (7, [.ref a, .int (nI 0), .int (nI 8), .int (nI 0), .int (nI 0), .int (nI 0), .int (nI 0)])), (a, .inl (kA 2, 4, .inr (.inr (.inr (.inr (fun _ => none)))))), (h1, .inr (11, [.int (nI 0), .ref q, .int (nI 8), .int (nI 0), .int (nI 0), .int (nI 0), .int (nI 0), .long 0])), (q, .inr (1, [.int (nI 0), .ref z, .int (nI 0)])), (o, .inl (kA 4, 1, .inr (.inl (fun _ => 0)))), (od, .inl (kA 5, 1, .inr (.inr (.inr (.inl (fun _ => 0))))))]) (hS : va_S (fun q : Nat => s.heap.size ≤ q) s.heap H locs) (hl : lv_has ls 9 [(5, .int (nI 0)), (4, .ref od), (3, .ref o), (2, .ref h1), (1, .ref h0), (0, .ref b)]) : W p l e room_1 s m #[Value.ref b] below meth c H locs 6 24 (lw_Z below #[Value.ref b] s) (F0 m 899 ls []) := by
  obtain ⟨hx, hb, hr, hml, hown, hts0, hX, hbl, hlocks, hgv⟩ := id C0
  have hA : ∀ q : Nat, s.heap.size ≤ q → (fun q : Nat => s.heap.size ≤ q) q := fun _ h => h
  have hbA : ¬ (fun q : Nat => s.heap.size ≤ q) b := Nat.not_le.mpr hbl
  generalize hAe : (fun q : Nat => s.heap.size ≤ q) = A at hD hS hA hbA hG
  refine lv_aload_n hx hb dL_law_899 rfl (lv_at hl 4 rfl) ?_
  refine lv_aload_n hx hb dL_law_900 rfl (lv_at hl 5 rfl) ?_
  refine lv_iload hx hb dL_law_901 (lv_at hl 0 rfl) ?_
  refine lv_iconst (v := nI 1) hx hb dL_law_903 (by decide) ?_
  refine lv_iadd hx hb dL_law_904 ?_
  rw [show nI 0 + nI 1 = nI 1 from by decide]
  refine va_sld hx hb hX hbl hbA hS (vp_in_nI (n := 1) (by decide) (by decide)) dL_law_905 ?_
  rw [nI_clamp (n := 1) (by decide)]
  refine lv_aload_n hx hb dL_law_906 rfl (lv_at hl 5 rfl) ?_
  refine lv_iload hx hb dL_law_907 (lv_at hl 0 rfl) ?_
  refine lv_iconst (v := nI 2) hx hb dL_law_909 (by decide) ?_
  refine lv_iadd hx hb dL_law_910 ?_
  rw [show nI 0 + nI 2 = nI 2 from by decide]
  refine va_sld hx hb hX hbl hbA hS (vp_in_nI (n := 2) (by decide) (by decide)) dL_law_911 ?_
  rw [nI_clamp (n := 2) (by decide)]
  refine lv_aload_n hx hb dL_law_912 rfl (lv_at hl 5 rfl) ?_
  refine lv_iload hx hb dL_law_913 (lv_at hl 0 rfl) ?_
  refine lv_iconst (v := nI 3) hx hb dL_law_915 (by decide) ?_
  refine lv_iadd hx hb dL_law_916 ?_
  rw [show nI 0 + nI 3 = nI 3 from by decide]
  refine va_sld hx hb hX hbl hbA hS (vp_in_nI (n := 3) (by decide) (by decide)) dL_law_917 ?_
  rw [nI_clamp (n := 3) (by decide)]
  refine lv_aload_n hx hb dL_law_918 rfl (lv_at hl 2 rfl) ?_
  have hF := va_free (wc := [(h0, .inr (7, [.ref a, .int (nI 0), .int (nI 8), .int (nI 0), .int (nI 0), .int (nI 0), .int (nI 0)])), (a, .inl (kA 2, 4, .inr (.inr (.inr (.inr (fun _ => none)))))), (o, .inl (kA 4, 1, .inr (.inl (fun _ => 0))))]) hD hS hA [0, 1, 4] rfl
  refine va_calli (vx_runSW (As := [.ref h0, .int (xs 1), .int (xs 2), .int (xs 3), .ref o]) (rest := []) ⟨hx, hb, hml, hown, hts⟩ (c_L_ofCell_e l D kA z hfl h0 a o (xs 1) (xs 2) (xs 3) (fun _ => 0)  _) (vx_cwSW 5 hts h_law_25 rfl rfl rfl (by decide +kernel) ⟨Nat.le_of_ble_eq_true rfl, Nat.le_of_ble_eq_true rfl⟩) (fPs hK hP hD hS hG hF [0, 1, 4] (by decide) rfl) rfl rfl hl.1 rfl (lv_room (Nat.le_of_ble_eq_true rfl)) dL_law_919 ⟨Nat.le_of_ble_eq_true rfl, Nat.le_of_ble_eq_true rfl⟩) hS (fun q _ h => hF q h) hF (fun r_1 w1 t H locs ht hvm hw hB hz1 hk1 hS => ?_)
  obtain ⟨hP, hD⟩ := fJ (wr := [(h1, .inr (11, [.int (nI 0), .ref q, .int (nI 8), .int (nI 0), .int (nI 0), .int (nI 0), .int (nI 0), .long 0])), (q, .inr (1, [.int (nI 0), .ref z, .int (nI 0)])), (od, .inl (kA 5, 1, .inr (.inr (.inr (.inl (fun _ => 0))))))]) hP hD [0, 1, 4] [2, 3, 5] rfl rfl (by decide) (by decide) hk1 hF ht hB
  try dsimp only at hw
  obtain ⟨rfl, e_1⟩ := hw
  replace e_1 := e_1.symm
  subst e_1
  have hP : va_P D vwCl [(h1, .inr (11, [.int (nI 0), .ref q, .int (nI 8), .int (nI 0), .int (nI 0), .int (nI 0), .int (nI 0), .long 0])), (q, .inr (1, [.int (nI 0), .ref z, .int (nI 0)])), (od, .inl (kA 5, 1, .inr (.inr (.inr (.inl (fun _ => 0)))))), (h0, .inr (7, [.ref a, .int (nI 0), .int (nI 8), .int (nI 0), .int (nI 0), .int (nI 0), .int (nI 0)])), (a, .inl (kA 2, 4, .inr (.inr (.inr (.inr (fun _ => none)))))), (o, .inl (kA 4, 1, .inr (.inl (fun _ => 0))))] H := hP
  have hD : va_D A [(h1, .inr (11, [.int (nI 0), .ref q, .int (nI 8), .int (nI 0), .int (nI 0), .int (nI 0), .int (nI 0), .long 0])), (q, .inr (1, [.int (nI 0), .ref z, .int (nI 0)])), (od, .inl (kA 5, 1, .inr (.inr (.inr (.inl (fun _ => 0)))))), (h0, .inr (7, [.ref a, .int (nI 0), .int (nI 8), .int (nI 0), .int (nI 0), .int (nI 0), .int (nI 0)])), (a, .inl (kA 2, 4, .inr (.inr (.inr (.inr (fun _ => none)))))), (o, .inl (kA 4, 1, .inr (.inl (fun _ => 0))))] := hD
  refine lv_istore (lv' := [(6, .int (nI 1)), (5, .int (nI 0)), (4, .ref od), (3, .ref o), (2, .ref h1), (1, .ref h0), (0, .ref b)]) hx hb dL_law_922 hl (by decide) rfl (fun ls hl => ?_)
  refine lv_aload_n hx hb dL_law_924 rfl (lv_at hl 4 rfl) ?_
  refine lv_aload_n hx hb dL_law_925 rfl (lv_at hl 6 rfl) ?_
  refine lv_iload hx hb dL_law_926 (lv_at hl 1 rfl) ?_
  refine lv_iconst (v := nI 1) hx hb dL_law_928 (by decide) ?_
  refine lv_iadd hx hb dL_law_929 ?_
  rw [show nI 0 + nI 1 = nI 1 from by decide]
  refine va_sld hx hb hX hbl hbA hS (vp_in_nI (n := 1) (by decide) (by decide)) dL_law_930 ?_
  rw [nI_clamp (n := 1) (by decide)]
  refine lv_aload_n hx hb dL_law_931 rfl (lv_at hl 6 rfl) ?_
  refine lv_iload hx hb dL_law_932 (lv_at hl 1 rfl) ?_
  refine lv_iconst (v := nI 2) hx hb dL_law_934 (by decide) ?_
  refine lv_iadd hx hb dL_law_935 ?_
  rw [show nI 0 + nI 2 = nI 2 from by decide]
  refine va_sld hx hb hX hbl hbA hS (vp_in_nI (n := 2) (by decide) (by decide)) dL_law_936 ?_
  rw [nI_clamp (n := 2) (by decide)]
  refine lv_aload_n hx hb dL_law_937 rfl (lv_at hl 6 rfl) ?_
  refine lv_iload hx hb dL_law_938 (lv_at hl 1 rfl) ?_
  refine lv_iconst (v := nI 3) hx hb dL_law_940 (by decide) ?_
  refine lv_iadd hx hb dL_law_941 ?_
  rw [show nI 0 + nI 3 = nI 3 from by decide]
  refine va_sld hx hb hX hbl hbA hS (vp_in_nI (n := 3) (by decide) (by decide)) dL_law_942 ?_
  rw [nI_clamp (n := 3) (by decide)]
  have hF := va_free (wc := [(h1, .inr (11, [.int (nI 0), .ref q, .int (nI 8), .int (nI 0), .int (nI 0), .int (nI 0), .int (nI 0), .long 0])), (q, .inr (1, [.int (nI 0), .ref z, .int (nI 0)]))]) hD hS hA [0, 1] rfl
  refine va_calli (va_runV (As := [.int (xs 1), .int (xs 2), .int (xs 3)]) (rest := []) ⟨hx, hb, hml, hown, hts⟩ (c_X10_ofCell_e l D kA z h1 q (nI 0) (xs 1) (xs 2) (xs 3)  _) (cwV 3 hts h_law_26 rfl rfl rfl (by decide +kernel) ⟨Nat.le_of_ble_eq_true rfl, Nat.le_of_ble_eq_true rfl⟩) (fPv hK hP hD hS hG hF [0, 1] (by decide) rfl 0 11 rfl rfl rfl) rfl rfl hl.1 rfl (lv_room (Nat.le_of_ble_eq_true rfl)) dL_law_943 ⟨Nat.le_of_ble_eq_true rfl, Nat.le_of_ble_eq_true rfl⟩) hS (fun q _ h => hF q h) hF (fun r_2 w1 t H locs ht hvm hw hB hz1 hk1 hS => ?_)
  obtain ⟨hP, hD⟩ := fJ (wr := [(od, .inl (kA 5, 1, .inr (.inr (.inr (.inl (fun _ => 0)))))), (h0, .inr (7, [.ref a, .int (nI 0), .int (nI 8), .int (nI 0), .int (nI 0), .int (nI 0), .int (nI 0)])), (a, .inl (kA 2, 4, .inr (.inr (.inr (.inr (fun _ => none)))))), (o, .inl (kA 4, 1, .inr (.inl (fun _ => 0))))]) hP hD [0, 1] [2, 3, 4, 5] rfl rfl (by decide) (by decide) hk1 hF ht hB
  try dsimp only at hw
  subst hw
  have hP : va_P D vwCl [(od, .inl (kA 5, 1, .inr (.inr (.inr (.inl (fun _ => 0)))))), (h0, .inr (7, [.ref a, .int (nI 0), .int (nI 8), .int (nI 0), .int (nI 0), .int (nI 0), .int (nI 0)])), (a, .inl (kA 2, 4, .inr (.inr (.inr (.inr (fun _ => none)))))), (o, .inl (kA 4, 1, .inr (.inl (fun _ => 0)))), (h1, .inr (11, [.int (nI 1), .ref q, .int (nI 8), .int (nI 0), .int (nI 0), .int (nI 0), .int (nI 0), .long 0])), (q, .inr (1, [.int (nI 0), .ref z, .int (nI 0)]))] H := hP
  have hD : va_D A [(od, .inl (kA 5, 1, .inr (.inr (.inr (.inl (fun _ => 0)))))), (h0, .inr (7, [.ref a, .int (nI 0), .int (nI 8), .int (nI 0), .int (nI 0), .int (nI 0), .int (nI 0)])), (a, .inl (kA 2, 4, .inr (.inr (.inr (.inr (fun _ => none)))))), (o, .inl (kA 4, 1, .inr (.inl (fun _ => 0)))), (h1, .inr (11, [.int (nI 1), .ref q, .int (nI 8), .int (nI 0), .int (nI 0), .int (nI 0), .int (nI 0), .long 0])), (q, .inr (1, [.int (nI 0), .ref z, .int (nI 0)]))] := hD
  refine lv_istore (lv' := [(7, .int r_2), (6, .int (nI 1)), (5, .int (nI 0)), (4, .ref od), (3, .ref o), (2, .ref h1), (1, .ref h0), (0, .ref b)]) hx hb dL_law_946 hl (by decide) rfl (fun ls hl => ?_)
  refine lv_aload_n hx hb dL_law_948 rfl (lv_at hl 5 rfl) ?_
  have hF := va_free (wc := [(h1, .inr (11, [.int (nI 1), .ref q, .int (nI 8), .int (nI 0), .int (nI 0), .int (nI 0), .int (nI 0), .long 0]))]) hD hS hA [4] rfl
  refine va_calli (va_runV (As := []) (rest := []) ⟨hx, hb, hml, hown, hts⟩ (c_X10_thrown l D kA z h1 q (nI 1) (nI 8) (nI 0) (nI 0) (nI 0) (nI 0) 0  _) (cwV 0 hts h_law_2 rfl rfl rfl (by decide +kernel) ⟨Nat.le_of_ble_eq_true rfl, Nat.le_of_ble_eq_true rfl⟩) (fPv hK hP hD hS hG hF [4] (by decide) rfl 4 11 rfl rfl rfl) rfl rfl hl.1 rfl (lv_room (Nat.le_of_ble_eq_true rfl)) dL_law_949 ⟨Nat.le_of_ble_eq_true rfl, Nat.le_of_ble_eq_true rfl⟩) hS (fun q _ h => hF q h) hF (fun r_3 w1 t H locs ht hvm hw hB hz1 hk1 hS => ?_)
  obtain ⟨hP, hD⟩ := fJ (wr := [(od, .inl (kA 5, 1, .inr (.inr (.inr (.inl (fun _ => 0)))))), (h0, .inr (7, [.ref a, .int (nI 0), .int (nI 8), .int (nI 0), .int (nI 0), .int (nI 0), .int (nI 0)])), (a, .inl (kA 2, 4, .inr (.inr (.inr (.inr (fun _ => none)))))), (o, .inl (kA 4, 1, .inr (.inl (fun _ => 0)))), (q, .inr (1, [.int (nI 0), .ref z, .int (nI 0)]))]) hP hD [4] [0, 1, 2, 3, 5] rfl rfl (by decide) (by decide) hk1 hF ht hB
  try dsimp only at hw
  obtain ⟨rfl, e_2⟩ := hw
  replace e_2 := e_2.symm
  subst e_2
  have hP : va_P D vwCl [(od, .inl (kA 5, 1, .inr (.inr (.inr (.inl (fun _ => 0)))))), (h0, .inr (7, [.ref a, .int (nI 0), .int (nI 8), .int (nI 0), .int (nI 0), .int (nI 0), .int (nI 0)])), (a, .inl (kA 2, 4, .inr (.inr (.inr (.inr (fun _ => none)))))), (o, .inl (kA 4, 1, .inr (.inl (fun _ => 0)))), (q, .inr (1, [.int (nI 0), .ref z, .int (nI 0)])), (h1, .inr (11, [.int (nI 1), .ref q, .int (nI 8), .int (nI 0), .int (nI 0), .int (nI 0), .int (nI 0), .long 0]))] H := hP
  have hD : va_D A [(od, .inl (kA 5, 1, .inr (.inr (.inr (.inl (fun _ => 0)))))), (h0, .inr (7, [.ref a, .int (nI 0), .int (nI 8), .int (nI 0), .int (nI 0), .int (nI 0), .int (nI 0)])), (a, .inl (kA 2, 4, .inr (.inr (.inr (.inr (fun _ => none)))))), (o, .inl (kA 4, 1, .inr (.inl (fun _ => 0)))), (q, .inr (1, [.int (nI 0), .ref z, .int (nI 0)])), (h1, .inr (11, [.int (nI 1), .ref q, .int (nI 8), .int (nI 0), .int (nI 0), .int (nI 0), .int (nI 0), .long 0]))] := hD
  refine lv_iload hx hb dL_law_952 (lv_at hl 1 rfl) ?_
  refine lv_icmp_eq (tgt := 959) hx hb dL_law_954 (by decide) (fun _ => ?_) (fun c954 => absurd (by decide) c954)
  refine lv_iload hx hb dL_law_959 (lv_at hl 1 rfl) ?_
  refine lv_if_ne (tgt := 976) hx hb dL_law_961 (by decide) (fun _ => ?_) (fun c961 => absurd c961 (by decide))
  refine lv_goto (tgt := 1775) hx hb dL_law_976 (by decide) ?_
  subst hAe
  exact law_tail C0 hS (lv_sub hl [2, 7] rfl) (Nat.le_of_ble_eq_true rfl) (Nat.le_of_ble_eq_true rfl)

set_option maxHeartbeats 16000000 in
set_option maxRecDepth 100000 in
theorem law_case11 {p : Program} {e : Env} {s : State} {m : MethodId} {below : List Frame} {meth : Method} {c : Code} {l : Launch} {b : Nat} {xs : Nat → Int32} (hfl : l.stackTraces = false) (C0 : lw_At p s m meth c b 6 xs) (hts : ∀ w ∈ wq_law, w.before #[Value.ref b] s = true) {D : va_G} {kA : Nat → ClassId} {z : Nat} (hK : va_K D vwCl (tyL kA) s) (hG : gS z (fun q : Nat => s.heap.size ≤ q) s s.heap) {h0 a h1 q o od : Nat} {H : Heap} {locs : List Loc} {ls : Array Slot} (hP : va_P D vwCl [(h0, .inr (7, [.ref a, .int (nI 0), .int (nI 8), .int (nI 0), .int (nI 0), .int (nI 0), .int (nI 0)])), (a, .inl (kA 2, 4, .inr (.inr (.inr (.inr (fun _ => none)))))), (h1, .inr (11, [.int (nI 0), .ref q, .int (nI 8), .int (nI 0), .int (nI 0), .int (nI 0), .int (nI 0), .long 0])), (q, .inr (1, [.int (nI 0), .ref z, .int (nI 0)])), (o, .inl (kA 4, 1, .inr (.inl (fun _ => 0)))), (od, .inl (kA 5, 1, .inr (.inr (.inr (.inl (fun _ => 0))))))] H) (hD : va_D (fun q : Nat => s.heap.size ≤ q) [(h0, .inr (7, [.ref a, .int (nI 0), .int (nI 8), .int (nI 0), .int (nI 0), .int (nI 0), .int (nI 0)])), (a, .inl (kA 2, 4, .inr (.inr (.inr (.inr (fun _ => none)))))), (h1, .inr (11, [.int (nI 0), .ref q, .int (nI 8), .int (nI 0), .int (nI 0), .int (nI 0), .int (nI 0), .long 0])), (q, .inr (1, [.int (nI 0), .ref z, .int (nI 0)])), (o, .inl (kA 4, 1, .inr (.inl (fun _ => 0)))), (od, .inl (kA 5, 1, .inr (.inr (.inr (.inl (fun _ => 0))))))]) (hS : va_S (fun q : Nat => s.heap.size ≤ q) s.heap H locs) (hl : lv_has ls 9 [(5, .int (nI 0)), (4, .ref od), (3, .ref o), (2, .ref h1), (1, .ref h0), (0, .ref b)]) : W p l e room_1 s m #[Value.ref b] below meth c H locs 6 24 (lw_Z below #[Value.ref b] s) (F0 m 979 ls []) := by
  obtain ⟨hx, hb, hr, hml, hown, hts0, hX, hbl, hlocks, hgv⟩ := id C0
  have hA : ∀ q : Nat, s.heap.size ≤ q → (fun q : Nat => s.heap.size ≤ q) q := fun _ h => h
  have hbA : ¬ (fun q : Nat => s.heap.size ≤ q) b := Nat.not_le.mpr hbl
  generalize hAe : (fun q : Nat => s.heap.size ≤ q) = A at hD hS hA hbA hG
  refine lv_aload_n hx hb dL_law_979 rfl (lv_at hl 4 rfl) ?_
  refine lv_aload_n hx hb dL_law_980 rfl (lv_at hl 5 rfl) ?_
  refine lv_iload hx hb dL_law_981 (lv_at hl 0 rfl) ?_
  refine lv_iconst (v := nI 1) hx hb dL_law_983 (by decide) ?_
  refine lv_iadd hx hb dL_law_984 ?_
  rw [show nI 0 + nI 1 = nI 1 from by decide]
  refine va_sld hx hb hX hbl hbA hS (vp_in_nI (n := 1) (by decide) (by decide)) dL_law_985 ?_
  rw [nI_clamp (n := 1) (by decide)]
  refine lv_aload_n hx hb dL_law_986 rfl (lv_at hl 5 rfl) ?_
  refine lv_iload hx hb dL_law_987 (lv_at hl 0 rfl) ?_
  refine lv_iconst (v := nI 2) hx hb dL_law_989 (by decide) ?_
  refine lv_iadd hx hb dL_law_990 ?_
  rw [show nI 0 + nI 2 = nI 2 from by decide]
  refine va_sld hx hb hX hbl hbA hS (vp_in_nI (n := 2) (by decide) (by decide)) dL_law_991 ?_
  rw [nI_clamp (n := 2) (by decide)]
  refine lv_aload_n hx hb dL_law_992 rfl (lv_at hl 2 rfl) ?_
  have hF := va_free (wc := [(h0, .inr (7, [.ref a, .int (nI 0), .int (nI 8), .int (nI 0), .int (nI 0), .int (nI 0), .int (nI 0)])), (a, .inl (kA 2, 4, .inr (.inr (.inr (.inr (fun _ => none)))))), (o, .inl (kA 4, 1, .inr (.inl (fun _ => 0))))]) hD hS hA [0, 1, 4] rfl
  refine va_calli (vx_runSW (As := [.ref h0, .int (xs 1), .int (xs 2), .ref o]) (rest := []) ⟨hx, hb, hml, hown, hts⟩ (c_L_ofTrack_e l D kA z hfl h0 a o (xs 1) (xs 2) (fun _ => 0)  _) (vx_cwSW 4 hts h_law_27 rfl rfl rfl (by decide +kernel) ⟨Nat.le_of_ble_eq_true rfl, Nat.le_of_ble_eq_true rfl⟩) (fPs hK hP hD hS hG hF [0, 1, 4] (by decide) rfl) rfl rfl hl.1 rfl (lv_room (Nat.le_of_ble_eq_true rfl)) dL_law_993 ⟨Nat.le_of_ble_eq_true rfl, Nat.le_of_ble_eq_true rfl⟩) hS (fun q _ h => hF q h) hF (fun r_1 w1 t H locs ht hvm hw hB hz1 hk1 hS => ?_)
  obtain ⟨hP, hD⟩ := fJ (wr := [(h1, .inr (11, [.int (nI 0), .ref q, .int (nI 8), .int (nI 0), .int (nI 0), .int (nI 0), .int (nI 0), .long 0])), (q, .inr (1, [.int (nI 0), .ref z, .int (nI 0)])), (od, .inl (kA 5, 1, .inr (.inr (.inr (.inl (fun _ => 0))))))]) hP hD [0, 1, 4] [2, 3, 5] rfl rfl (by decide) (by decide) hk1 hF ht hB
  try dsimp only at hw
  obtain ⟨rfl, e_1⟩ := hw
  replace e_1 := e_1.symm
  subst e_1
  have hP : va_P D vwCl [(h1, .inr (11, [.int (nI 0), .ref q, .int (nI 8), .int (nI 0), .int (nI 0), .int (nI 0), .int (nI 0), .long 0])), (q, .inr (1, [.int (nI 0), .ref z, .int (nI 0)])), (od, .inl (kA 5, 1, .inr (.inr (.inr (.inl (fun _ => 0)))))), (h0, .inr (7, [.ref a, .int (nI 0), .int (nI 8), .int (nI 0), .int (nI 0), .int (nI 0), .int (nI 0)])), (a, .inl (kA 2, 4, .inr (.inr (.inr (.inr (fun _ => none)))))), (o, .inl (kA 4, 1, .inr (.inl (fun _ => 0))))] H := hP
  have hD : va_D A [(h1, .inr (11, [.int (nI 0), .ref q, .int (nI 8), .int (nI 0), .int (nI 0), .int (nI 0), .int (nI 0), .long 0])), (q, .inr (1, [.int (nI 0), .ref z, .int (nI 0)])), (od, .inl (kA 5, 1, .inr (.inr (.inr (.inl (fun _ => 0)))))), (h0, .inr (7, [.ref a, .int (nI 0), .int (nI 8), .int (nI 0), .int (nI 0), .int (nI 0), .int (nI 0)])), (a, .inl (kA 2, 4, .inr (.inr (.inr (.inr (fun _ => none)))))), (o, .inl (kA 4, 1, .inr (.inl (fun _ => 0))))] := hD
  refine lv_istore (lv' := [(6, .int (nI 1)), (5, .int (nI 0)), (4, .ref od), (3, .ref o), (2, .ref h1), (1, .ref h0), (0, .ref b)]) hx hb dL_law_996 hl (by decide) rfl (fun ls hl => ?_)
  refine lv_aload_n hx hb dL_law_998 rfl (lv_at hl 4 rfl) ?_
  refine lv_aload_n hx hb dL_law_999 rfl (lv_at hl 6 rfl) ?_
  refine lv_iload hx hb dL_law_1000 (lv_at hl 1 rfl) ?_
  refine lv_iconst (v := nI 1) hx hb dL_law_1002 (by decide) ?_
  refine lv_iadd hx hb dL_law_1003 ?_
  rw [show nI 0 + nI 1 = nI 1 from by decide]
  refine va_sld hx hb hX hbl hbA hS (vp_in_nI (n := 1) (by decide) (by decide)) dL_law_1004 ?_
  rw [nI_clamp (n := 1) (by decide)]
  refine lv_aload_n hx hb dL_law_1005 rfl (lv_at hl 6 rfl) ?_
  refine lv_iload hx hb dL_law_1006 (lv_at hl 1 rfl) ?_
  refine lv_iconst (v := nI 2) hx hb dL_law_1008 (by decide) ?_
  refine lv_iadd hx hb dL_law_1009 ?_
  rw [show nI 0 + nI 2 = nI 2 from by decide]
  refine va_sld hx hb hX hbl hbA hS (vp_in_nI (n := 2) (by decide) (by decide)) dL_law_1010 ?_
  rw [nI_clamp (n := 2) (by decide)]
  have hF := va_free (wc := [(h1, .inr (11, [.int (nI 0), .ref q, .int (nI 8), .int (nI 0), .int (nI 0), .int (nI 0), .int (nI 0), .long 0])), (q, .inr (1, [.int (nI 0), .ref z, .int (nI 0)]))]) hD hS hA [0, 1] rfl
  refine va_calli (va_runV (As := [.int (xs 1), .int (xs 2)]) (rest := []) ⟨hx, hb, hml, hown, hts⟩ (c_X10_ofTrack_e l D kA z h1 q (nI 0) (xs 1) (xs 2)  _) (cwV 2 hts h_law_28 rfl rfl rfl (by decide +kernel) ⟨Nat.le_of_ble_eq_true rfl, Nat.le_of_ble_eq_true rfl⟩) (fPv hK hP hD hS hG hF [0, 1] (by decide) rfl 0 11 rfl rfl rfl) rfl rfl hl.1 rfl (lv_room (Nat.le_of_ble_eq_true rfl)) dL_law_1011 ⟨Nat.le_of_ble_eq_true rfl, Nat.le_of_ble_eq_true rfl⟩) hS (fun q _ h => hF q h) hF (fun r_2 w1 t H locs ht hvm hw hB hz1 hk1 hS => ?_)
  obtain ⟨hP, hD⟩ := fJ (wr := [(od, .inl (kA 5, 1, .inr (.inr (.inr (.inl (fun _ => 0)))))), (h0, .inr (7, [.ref a, .int (nI 0), .int (nI 8), .int (nI 0), .int (nI 0), .int (nI 0), .int (nI 0)])), (a, .inl (kA 2, 4, .inr (.inr (.inr (.inr (fun _ => none)))))), (o, .inl (kA 4, 1, .inr (.inl (fun _ => 0))))]) hP hD [0, 1] [2, 3, 4, 5] rfl rfl (by decide) (by decide) hk1 hF ht hB
  try dsimp only at hw
  subst hw
  have hP : va_P D vwCl [(od, .inl (kA 5, 1, .inr (.inr (.inr (.inl (fun _ => 0)))))), (h0, .inr (7, [.ref a, .int (nI 0), .int (nI 8), .int (nI 0), .int (nI 0), .int (nI 0), .int (nI 0)])), (a, .inl (kA 2, 4, .inr (.inr (.inr (.inr (fun _ => none)))))), (o, .inl (kA 4, 1, .inr (.inl (fun _ => 0)))), (h1, .inr (11, [.int (nI 1), .ref q, .int (nI 8), .int (nI 0), .int (nI 0), .int (nI 0), .int (nI 0), .long 0])), (q, .inr (1, [.int (nI 0), .ref z, .int (nI 0)]))] H := hP
  have hD : va_D A [(od, .inl (kA 5, 1, .inr (.inr (.inr (.inl (fun _ => 0)))))), (h0, .inr (7, [.ref a, .int (nI 0), .int (nI 8), .int (nI 0), .int (nI 0), .int (nI 0), .int (nI 0)])), (a, .inl (kA 2, 4, .inr (.inr (.inr (.inr (fun _ => none)))))), (o, .inl (kA 4, 1, .inr (.inl (fun _ => 0)))), (h1, .inr (11, [.int (nI 1), .ref q, .int (nI 8), .int (nI 0), .int (nI 0), .int (nI 0), .int (nI 0), .long 0])), (q, .inr (1, [.int (nI 0), .ref z, .int (nI 0)]))] := hD
  refine lv_istore (lv' := [(7, .int r_2), (6, .int (nI 1)), (5, .int (nI 0)), (4, .ref od), (3, .ref o), (2, .ref h1), (1, .ref h0), (0, .ref b)]) hx hb dL_law_1014 hl (by decide) rfl (fun ls hl => ?_)
  refine lv_aload_n hx hb dL_law_1016 rfl (lv_at hl 5 rfl) ?_
  have hF := va_free (wc := [(h1, .inr (11, [.int (nI 1), .ref q, .int (nI 8), .int (nI 0), .int (nI 0), .int (nI 0), .int (nI 0), .long 0]))]) hD hS hA [4] rfl
  refine va_calli (va_runV (As := []) (rest := []) ⟨hx, hb, hml, hown, hts⟩ (c_X10_thrown l D kA z h1 q (nI 1) (nI 8) (nI 0) (nI 0) (nI 0) (nI 0) 0  _) (cwV 0 hts h_law_2 rfl rfl rfl (by decide +kernel) ⟨Nat.le_of_ble_eq_true rfl, Nat.le_of_ble_eq_true rfl⟩) (fPv hK hP hD hS hG hF [4] (by decide) rfl 4 11 rfl rfl rfl) rfl rfl hl.1 rfl (lv_room (Nat.le_of_ble_eq_true rfl)) dL_law_1017 ⟨Nat.le_of_ble_eq_true rfl, Nat.le_of_ble_eq_true rfl⟩) hS (fun q _ h => hF q h) hF (fun r_3 w1 t H locs ht hvm hw hB hz1 hk1 hS => ?_)
  obtain ⟨hP, hD⟩ := fJ (wr := [(od, .inl (kA 5, 1, .inr (.inr (.inr (.inl (fun _ => 0)))))), (h0, .inr (7, [.ref a, .int (nI 0), .int (nI 8), .int (nI 0), .int (nI 0), .int (nI 0), .int (nI 0)])), (a, .inl (kA 2, 4, .inr (.inr (.inr (.inr (fun _ => none)))))), (o, .inl (kA 4, 1, .inr (.inl (fun _ => 0)))), (q, .inr (1, [.int (nI 0), .ref z, .int (nI 0)]))]) hP hD [4] [0, 1, 2, 3, 5] rfl rfl (by decide) (by decide) hk1 hF ht hB
  try dsimp only at hw
  obtain ⟨rfl, e_2⟩ := hw
  replace e_2 := e_2.symm
  subst e_2
  have hP : va_P D vwCl [(od, .inl (kA 5, 1, .inr (.inr (.inr (.inl (fun _ => 0)))))), (h0, .inr (7, [.ref a, .int (nI 0), .int (nI 8), .int (nI 0), .int (nI 0), .int (nI 0), .int (nI 0)])), (a, .inl (kA 2, 4, .inr (.inr (.inr (.inr (fun _ => none)))))), (o, .inl (kA 4, 1, .inr (.inl (fun _ => 0)))), (q, .inr (1, [.int (nI 0), .ref z, .int (nI 0)])), (h1, .inr (11, [.int (nI 1), .ref q, .int (nI 8), .int (nI 0), .int (nI 0), .int (nI 0), .int (nI 0), .long 0]))] H := hP
  have hD : va_D A [(od, .inl (kA 5, 1, .inr (.inr (.inr (.inl (fun _ => 0)))))), (h0, .inr (7, [.ref a, .int (nI 0), .int (nI 8), .int (nI 0), .int (nI 0), .int (nI 0), .int (nI 0)])), (a, .inl (kA 2, 4, .inr (.inr (.inr (.inr (fun _ => none)))))), (o, .inl (kA 4, 1, .inr (.inl (fun _ => 0)))), (q, .inr (1, [.int (nI 0), .ref z, .int (nI 0)])), (h1, .inr (11, [.int (nI 1), .ref q, .int (nI 8), .int (nI 0), .int (nI 0), .int (nI 0), .int (nI 0), .long 0]))] := hD
  refine lv_iload hx hb dL_law_1020 (lv_at hl 1 rfl) ?_
  refine lv_icmp_eq (tgt := 1027) hx hb dL_law_1022 (by decide) (fun _ => ?_) (fun c1022 => absurd (by decide) c1022)
  refine lv_iload hx hb dL_law_1027 (lv_at hl 1 rfl) ?_
  refine lv_if_ne (tgt := 1044) hx hb dL_law_1029 (by decide) (fun _ => ?_) (fun c1029 => absurd c1029 (by decide))
  refine lv_goto (tgt := 1775) hx hb dL_law_1044 (by decide) ?_
  subst hAe
  exact law_tail C0 hS (lv_sub hl [2, 7] rfl) (Nat.le_of_ble_eq_true rfl) (Nat.le_of_ble_eq_true rfl)

set_option maxHeartbeats 16000000 in
set_option maxRecDepth 100000 in
theorem law_case12 {p : Program} {e : Env} {s : State} {m : MethodId} {below : List Frame} {meth : Method} {c : Code} {l : Launch} {b : Nat} {xs : Nat → Int32} (hfl : l.stackTraces = false) (C0 : lw_At p s m meth c b 6 xs) (hts : ∀ w ∈ wq_law, w.before #[Value.ref b] s = true) {D : va_G} {kA : Nat → ClassId} {z : Nat} (hK : va_K D vwCl (tyL kA) s) (hG : gS z (fun q : Nat => s.heap.size ≤ q) s s.heap) {h0 a h1 q o od : Nat} {H : Heap} {locs : List Loc} {ls : Array Slot} (hP : va_P D vwCl [(h0, .inr (7, [.ref a, .int (nI 0), .int (nI 8), .int (nI 0), .int (nI 0), .int (nI 0), .int (nI 0)])), (a, .inl (kA 2, 4, .inr (.inr (.inr (.inr (fun _ => none)))))), (h1, .inr (11, [.int (nI 0), .ref q, .int (nI 8), .int (nI 0), .int (nI 0), .int (nI 0), .int (nI 0), .long 0])), (q, .inr (1, [.int (nI 0), .ref z, .int (nI 0)])), (o, .inl (kA 4, 1, .inr (.inl (fun _ => 0)))), (od, .inl (kA 5, 1, .inr (.inr (.inr (.inl (fun _ => 0))))))] H) (hD : va_D (fun q : Nat => s.heap.size ≤ q) [(h0, .inr (7, [.ref a, .int (nI 0), .int (nI 8), .int (nI 0), .int (nI 0), .int (nI 0), .int (nI 0)])), (a, .inl (kA 2, 4, .inr (.inr (.inr (.inr (fun _ => none)))))), (h1, .inr (11, [.int (nI 0), .ref q, .int (nI 8), .int (nI 0), .int (nI 0), .int (nI 0), .int (nI 0), .long 0])), (q, .inr (1, [.int (nI 0), .ref z, .int (nI 0)])), (o, .inl (kA 4, 1, .inr (.inl (fun _ => 0)))), (od, .inl (kA 5, 1, .inr (.inr (.inr (.inl (fun _ => 0))))))]) (hS : va_S (fun q : Nat => s.heap.size ≤ q) s.heap H locs) (hl : lv_has ls 9 [(5, .int (nI 0)), (4, .ref od), (3, .ref o), (2, .ref h1), (1, .ref h0), (0, .ref b)]) : W p l e room_1 s m #[Value.ref b] below meth c H locs 6 24 (lw_Z below #[Value.ref b] s) (F0 m 1047 ls []) := by
  obtain ⟨hx, hb, hr, hml, hown, hts0, hX, hbl, hlocks, hgv⟩ := id C0
  have hA : ∀ q : Nat, s.heap.size ≤ q → (fun q : Nat => s.heap.size ≤ q) q := fun _ h => h
  have hbA : ¬ (fun q : Nat => s.heap.size ≤ q) b := Nat.not_le.mpr hbl
  generalize hAe : (fun q : Nat => s.heap.size ≤ q) = A at hD hS hA hbA hG
  refine lv_aload_n hx hb dL_law_1047 rfl (lv_at hl 4 rfl) ?_
  refine lv_aload_n hx hb dL_law_1048 rfl (lv_at hl 5 rfl) ?_
  refine lv_iload hx hb dL_law_1049 (lv_at hl 0 rfl) ?_
  refine lv_iconst (v := nI 1) hx hb dL_law_1051 (by decide) ?_
  refine lv_iadd hx hb dL_law_1052 ?_
  rw [show nI 0 + nI 1 = nI 1 from by decide]
  refine va_sld hx hb hX hbl hbA hS (vp_in_nI (n := 1) (by decide) (by decide)) dL_law_1053 ?_
  rw [nI_clamp (n := 1) (by decide)]
  refine lv_aload_n hx hb dL_law_1054 rfl (lv_at hl 5 rfl) ?_
  refine lv_iload hx hb dL_law_1055 (lv_at hl 0 rfl) ?_
  refine lv_iconst (v := nI 2) hx hb dL_law_1057 (by decide) ?_
  refine lv_iadd hx hb dL_law_1058 ?_
  rw [show nI 0 + nI 2 = nI 2 from by decide]
  refine va_sld hx hb hX hbl hbA hS (vp_in_nI (n := 2) (by decide) (by decide)) dL_law_1059 ?_
  rw [nI_clamp (n := 2) (by decide)]
  refine lv_aload_n hx hb dL_law_1060 rfl (lv_at hl 2 rfl) ?_
  have hF := va_free (wc := [(h0, .inr (7, [.ref a, .int (nI 0), .int (nI 8), .int (nI 0), .int (nI 0), .int (nI 0), .int (nI 0)])), (a, .inl (kA 2, 4, .inr (.inr (.inr (.inr (fun _ => none)))))), (o, .inl (kA 4, 1, .inr (.inl (fun _ => 0))))]) hD hS hA [0, 1, 4] rfl
  refine va_calli (vx_runSW (As := [.ref h0, .int (xs 1), .int (xs 2), .ref o]) (rest := []) ⟨hx, hb, hml, hown, hts⟩ (c_L_vote_e l D kA z hfl h0 a o (xs 1) (xs 2) (fun _ => 0)  _) (vx_cwSW 4 hts h_law_29 rfl rfl rfl (by decide +kernel) ⟨Nat.le_of_ble_eq_true rfl, Nat.le_of_ble_eq_true rfl⟩) (fPs hK hP hD hS hG hF [0, 1, 4] (by decide) rfl) rfl rfl hl.1 rfl (lv_room (Nat.le_of_ble_eq_true rfl)) dL_law_1061 ⟨Nat.le_of_ble_eq_true rfl, Nat.le_of_ble_eq_true rfl⟩) hS (fun q _ h => hF q h) hF (fun r_1 w1 t H locs ht hvm hw hB hz1 hk1 hS => ?_)
  obtain ⟨hP, hD⟩ := fJ (wr := [(h1, .inr (11, [.int (nI 0), .ref q, .int (nI 8), .int (nI 0), .int (nI 0), .int (nI 0), .int (nI 0), .long 0])), (q, .inr (1, [.int (nI 0), .ref z, .int (nI 0)])), (od, .inl (kA 5, 1, .inr (.inr (.inr (.inl (fun _ => 0))))))]) hP hD [0, 1, 4] [2, 3, 5] rfl rfl (by decide) (by decide) hk1 hF ht hB
  try dsimp only at hw
  obtain ⟨rfl, e_1⟩ := hw
  replace e_1 := e_1.symm
  subst e_1
  have hP : va_P D vwCl [(h1, .inr (11, [.int (nI 0), .ref q, .int (nI 8), .int (nI 0), .int (nI 0), .int (nI 0), .int (nI 0), .long 0])), (q, .inr (1, [.int (nI 0), .ref z, .int (nI 0)])), (od, .inl (kA 5, 1, .inr (.inr (.inr (.inl (fun _ => 0)))))), (h0, .inr (7, [.ref a, .int (nI 0), .int (nI 8), .int (nI 0), .int (nI 0), .int (nI 0), .int (nI 0)])), (a, .inl (kA 2, 4, .inr (.inr (.inr (.inr (fun _ => none)))))), (o, .inl (kA 4, 1, .inr (.inl (fun _ => 0))))] H := hP
  have hD : va_D A [(h1, .inr (11, [.int (nI 0), .ref q, .int (nI 8), .int (nI 0), .int (nI 0), .int (nI 0), .int (nI 0), .long 0])), (q, .inr (1, [.int (nI 0), .ref z, .int (nI 0)])), (od, .inl (kA 5, 1, .inr (.inr (.inr (.inl (fun _ => 0)))))), (h0, .inr (7, [.ref a, .int (nI 0), .int (nI 8), .int (nI 0), .int (nI 0), .int (nI 0), .int (nI 0)])), (a, .inl (kA 2, 4, .inr (.inr (.inr (.inr (fun _ => none)))))), (o, .inl (kA 4, 1, .inr (.inl (fun _ => 0))))] := hD
  refine lv_istore (lv' := [(6, .int (nI 1)), (5, .int (nI 0)), (4, .ref od), (3, .ref o), (2, .ref h1), (1, .ref h0), (0, .ref b)]) hx hb dL_law_1064 hl (by decide) rfl (fun ls hl => ?_)
  refine lv_aload_n hx hb dL_law_1066 rfl (lv_at hl 4 rfl) ?_
  refine lv_aload_n hx hb dL_law_1067 rfl (lv_at hl 6 rfl) ?_
  refine lv_iload hx hb dL_law_1068 (lv_at hl 1 rfl) ?_
  refine lv_iconst (v := nI 1) hx hb dL_law_1070 (by decide) ?_
  refine lv_iadd hx hb dL_law_1071 ?_
  rw [show nI 0 + nI 1 = nI 1 from by decide]
  refine va_sld hx hb hX hbl hbA hS (vp_in_nI (n := 1) (by decide) (by decide)) dL_law_1072 ?_
  rw [nI_clamp (n := 1) (by decide)]
  refine lv_aload_n hx hb dL_law_1073 rfl (lv_at hl 6 rfl) ?_
  refine lv_iload hx hb dL_law_1074 (lv_at hl 1 rfl) ?_
  refine lv_iconst (v := nI 2) hx hb dL_law_1076 (by decide) ?_
  refine lv_iadd hx hb dL_law_1077 ?_
  rw [show nI 0 + nI 2 = nI 2 from by decide]
  refine va_sld hx hb hX hbl hbA hS (vp_in_nI (n := 2) (by decide) (by decide)) dL_law_1078 ?_
  rw [nI_clamp (n := 2) (by decide)]
  have hF := va_free (wc := [(h1, .inr (11, [.int (nI 0), .ref q, .int (nI 8), .int (nI 0), .int (nI 0), .int (nI 0), .int (nI 0), .long 0])), (q, .inr (1, [.int (nI 0), .ref z, .int (nI 0)]))]) hD hS hA [0, 1] rfl
  refine va_calli (va_runV (As := [.int (xs 1), .int (xs 2)]) (rest := []) ⟨hx, hb, hml, hown, hts⟩ (c_X10_vote_e l D kA z h1 q (nI 0) (xs 1) (xs 2)  _) (cwV 2 hts h_law_30 rfl rfl rfl (by decide +kernel) ⟨Nat.le_of_ble_eq_true rfl, Nat.le_of_ble_eq_true rfl⟩) (fPv hK hP hD hS hG hF [0, 1] (by decide) rfl 0 11 rfl rfl rfl) rfl rfl hl.1 rfl (lv_room (Nat.le_of_ble_eq_true rfl)) dL_law_1079 ⟨Nat.le_of_ble_eq_true rfl, Nat.le_of_ble_eq_true rfl⟩) hS (fun q _ h => hF q h) hF (fun r_2 w1 t H locs ht hvm hw hB hz1 hk1 hS => ?_)
  obtain ⟨hP, hD⟩ := fJ (wr := [(od, .inl (kA 5, 1, .inr (.inr (.inr (.inl (fun _ => 0)))))), (h0, .inr (7, [.ref a, .int (nI 0), .int (nI 8), .int (nI 0), .int (nI 0), .int (nI 0), .int (nI 0)])), (a, .inl (kA 2, 4, .inr (.inr (.inr (.inr (fun _ => none)))))), (o, .inl (kA 4, 1, .inr (.inl (fun _ => 0))))]) hP hD [0, 1] [2, 3, 4, 5] rfl rfl (by decide) (by decide) hk1 hF ht hB
  try dsimp only at hw
  subst hw
  have hP : va_P D vwCl [(od, .inl (kA 5, 1, .inr (.inr (.inr (.inl (fun _ => 0)))))), (h0, .inr (7, [.ref a, .int (nI 0), .int (nI 8), .int (nI 0), .int (nI 0), .int (nI 0), .int (nI 0)])), (a, .inl (kA 2, 4, .inr (.inr (.inr (.inr (fun _ => none)))))), (o, .inl (kA 4, 1, .inr (.inl (fun _ => 0)))), (h1, .inr (11, [.int (nI 1), .ref q, .int (nI 8), .int (nI 0), .int (nI 0), .int (nI 0), .int (nI 0), .long 0])), (q, .inr (1, [.int (nI 0), .ref z, .int (nI 0)]))] H := hP
  have hD : va_D A [(od, .inl (kA 5, 1, .inr (.inr (.inr (.inl (fun _ => 0)))))), (h0, .inr (7, [.ref a, .int (nI 0), .int (nI 8), .int (nI 0), .int (nI 0), .int (nI 0), .int (nI 0)])), (a, .inl (kA 2, 4, .inr (.inr (.inr (.inr (fun _ => none)))))), (o, .inl (kA 4, 1, .inr (.inl (fun _ => 0)))), (h1, .inr (11, [.int (nI 1), .ref q, .int (nI 8), .int (nI 0), .int (nI 0), .int (nI 0), .int (nI 0), .long 0])), (q, .inr (1, [.int (nI 0), .ref z, .int (nI 0)]))] := hD
  refine lv_istore (lv' := [(7, .int r_2), (6, .int (nI 1)), (5, .int (nI 0)), (4, .ref od), (3, .ref o), (2, .ref h1), (1, .ref h0), (0, .ref b)]) hx hb dL_law_1082 hl (by decide) rfl (fun ls hl => ?_)
  refine lv_aload_n hx hb dL_law_1084 rfl (lv_at hl 5 rfl) ?_
  have hF := va_free (wc := [(h1, .inr (11, [.int (nI 1), .ref q, .int (nI 8), .int (nI 0), .int (nI 0), .int (nI 0), .int (nI 0), .long 0]))]) hD hS hA [4] rfl
  refine va_calli (va_runV (As := []) (rest := []) ⟨hx, hb, hml, hown, hts⟩ (c_X10_thrown l D kA z h1 q (nI 1) (nI 8) (nI 0) (nI 0) (nI 0) (nI 0) 0  _) (cwV 0 hts h_law_2 rfl rfl rfl (by decide +kernel) ⟨Nat.le_of_ble_eq_true rfl, Nat.le_of_ble_eq_true rfl⟩) (fPv hK hP hD hS hG hF [4] (by decide) rfl 4 11 rfl rfl rfl) rfl rfl hl.1 rfl (lv_room (Nat.le_of_ble_eq_true rfl)) dL_law_1085 ⟨Nat.le_of_ble_eq_true rfl, Nat.le_of_ble_eq_true rfl⟩) hS (fun q _ h => hF q h) hF (fun r_3 w1 t H locs ht hvm hw hB hz1 hk1 hS => ?_)
  obtain ⟨hP, hD⟩ := fJ (wr := [(od, .inl (kA 5, 1, .inr (.inr (.inr (.inl (fun _ => 0)))))), (h0, .inr (7, [.ref a, .int (nI 0), .int (nI 8), .int (nI 0), .int (nI 0), .int (nI 0), .int (nI 0)])), (a, .inl (kA 2, 4, .inr (.inr (.inr (.inr (fun _ => none)))))), (o, .inl (kA 4, 1, .inr (.inl (fun _ => 0)))), (q, .inr (1, [.int (nI 0), .ref z, .int (nI 0)]))]) hP hD [4] [0, 1, 2, 3, 5] rfl rfl (by decide) (by decide) hk1 hF ht hB
  try dsimp only at hw
  obtain ⟨rfl, e_2⟩ := hw
  replace e_2 := e_2.symm
  subst e_2
  have hP : va_P D vwCl [(od, .inl (kA 5, 1, .inr (.inr (.inr (.inl (fun _ => 0)))))), (h0, .inr (7, [.ref a, .int (nI 0), .int (nI 8), .int (nI 0), .int (nI 0), .int (nI 0), .int (nI 0)])), (a, .inl (kA 2, 4, .inr (.inr (.inr (.inr (fun _ => none)))))), (o, .inl (kA 4, 1, .inr (.inl (fun _ => 0)))), (q, .inr (1, [.int (nI 0), .ref z, .int (nI 0)])), (h1, .inr (11, [.int (nI 1), .ref q, .int (nI 8), .int (nI 0), .int (nI 0), .int (nI 0), .int (nI 0), .long 0]))] H := hP
  have hD : va_D A [(od, .inl (kA 5, 1, .inr (.inr (.inr (.inl (fun _ => 0)))))), (h0, .inr (7, [.ref a, .int (nI 0), .int (nI 8), .int (nI 0), .int (nI 0), .int (nI 0), .int (nI 0)])), (a, .inl (kA 2, 4, .inr (.inr (.inr (.inr (fun _ => none)))))), (o, .inl (kA 4, 1, .inr (.inl (fun _ => 0)))), (q, .inr (1, [.int (nI 0), .ref z, .int (nI 0)])), (h1, .inr (11, [.int (nI 1), .ref q, .int (nI 8), .int (nI 0), .int (nI 0), .int (nI 0), .int (nI 0), .long 0]))] := hD
  refine lv_iload hx hb dL_law_1088 (lv_at hl 1 rfl) ?_
  refine lv_icmp_eq (tgt := 1095) hx hb dL_law_1090 (by decide) (fun _ => ?_) (fun c1090 => absurd (by decide) c1090)
  refine lv_iload hx hb dL_law_1095 (lv_at hl 1 rfl) ?_
  refine lv_if_ne (tgt := 1112) hx hb dL_law_1097 (by decide) (fun _ => ?_) (fun c1097 => absurd c1097 (by decide))
  refine lv_goto (tgt := 1775) hx hb dL_law_1112 (by decide) ?_
  subst hAe
  exact law_tail C0 hS (lv_sub hl [2, 7] rfl) (Nat.le_of_ble_eq_true rfl) (Nat.le_of_ble_eq_true rfl)

set_option maxHeartbeats 16000000 in
set_option maxRecDepth 100000 in
theorem law_case13 {p : Program} {e : Env} {s : State} {m : MethodId} {below : List Frame} {meth : Method} {c : Code} {l : Launch} {b : Nat} {xs : Nat → Int32} (hfl : l.stackTraces = false) (C0 : lw_At p s m meth c b 6 xs) (hts : ∀ w ∈ wq_law, w.before #[Value.ref b] s = true) {D : va_G} {kA : Nat → ClassId} {z : Nat} (hK : va_K D vwCl (tyL kA) s) (hG : gS z (fun q : Nat => s.heap.size ≤ q) s s.heap) {h0 a h1 q o od : Nat} {H : Heap} {locs : List Loc} {ls : Array Slot} (hP : va_P D vwCl [(h0, .inr (7, [.ref a, .int (nI 0), .int (nI 8), .int (nI 0), .int (nI 0), .int (nI 0), .int (nI 0)])), (a, .inl (kA 2, 4, .inr (.inr (.inr (.inr (fun _ => none)))))), (h1, .inr (11, [.int (nI 0), .ref q, .int (nI 8), .int (nI 0), .int (nI 0), .int (nI 0), .int (nI 0), .long 0])), (q, .inr (1, [.int (nI 0), .ref z, .int (nI 0)])), (o, .inl (kA 4, 1, .inr (.inl (fun _ => 0)))), (od, .inl (kA 5, 1, .inr (.inr (.inr (.inl (fun _ => 0))))))] H) (hD : va_D (fun q : Nat => s.heap.size ≤ q) [(h0, .inr (7, [.ref a, .int (nI 0), .int (nI 8), .int (nI 0), .int (nI 0), .int (nI 0), .int (nI 0)])), (a, .inl (kA 2, 4, .inr (.inr (.inr (.inr (fun _ => none)))))), (h1, .inr (11, [.int (nI 0), .ref q, .int (nI 8), .int (nI 0), .int (nI 0), .int (nI 0), .int (nI 0), .long 0])), (q, .inr (1, [.int (nI 0), .ref z, .int (nI 0)])), (o, .inl (kA 4, 1, .inr (.inl (fun _ => 0)))), (od, .inl (kA 5, 1, .inr (.inr (.inr (.inl (fun _ => 0))))))]) (hS : va_S (fun q : Nat => s.heap.size ≤ q) s.heap H locs) (hl : lv_has ls 9 [(5, .int (nI 0)), (4, .ref od), (3, .ref o), (2, .ref h1), (1, .ref h0), (0, .ref b)]) : W p l e room_1 s m #[Value.ref b] below meth c H locs 6 24 (lw_Z below #[Value.ref b] s) (F0 m 1115 ls []) := by
  obtain ⟨hx, hb, hr, hml, hown, hts0, hX, hbl, hlocks, hgv⟩ := id C0
  have hA : ∀ q : Nat, s.heap.size ≤ q → (fun q : Nat => s.heap.size ≤ q) q := fun _ h => h
  have hbA : ¬ (fun q : Nat => s.heap.size ≤ q) b := Nat.not_le.mpr hbl
  generalize hAe : (fun q : Nat => s.heap.size ≤ q) = A at hD hS hA hbA hG
  refine lv_aload_n hx hb dL_law_1115 rfl (lv_at hl 4 rfl) ?_
  refine lv_aload_n hx hb dL_law_1116 rfl (lv_at hl 5 rfl) ?_
  refine lv_iload hx hb dL_law_1117 (lv_at hl 0 rfl) ?_
  refine lv_iconst (v := nI 1) hx hb dL_law_1119 (by decide) ?_
  refine lv_iadd hx hb dL_law_1120 ?_
  rw [show nI 0 + nI 1 = nI 1 from by decide]
  refine va_sld hx hb hX hbl hbA hS (vp_in_nI (n := 1) (by decide) (by decide)) dL_law_1121 ?_
  rw [nI_clamp (n := 1) (by decide)]
  refine lv_aload_n hx hb dL_law_1122 rfl (lv_at hl 5 rfl) ?_
  refine lv_iload hx hb dL_law_1123 (lv_at hl 0 rfl) ?_
  refine lv_iconst (v := nI 2) hx hb dL_law_1125 (by decide) ?_
  refine lv_iadd hx hb dL_law_1126 ?_
  rw [show nI 0 + nI 2 = nI 2 from by decide]
  refine va_sld hx hb hX hbl hbA hS (vp_in_nI (n := 2) (by decide) (by decide)) dL_law_1127 ?_
  rw [nI_clamp (n := 2) (by decide)]
  refine lv_aload_n hx hb dL_law_1128 rfl (lv_at hl 5 rfl) ?_
  refine lv_iload hx hb dL_law_1129 (lv_at hl 0 rfl) ?_
  refine lv_iconst (v := nI 3) hx hb dL_law_1131 (by decide) ?_
  refine lv_iadd hx hb dL_law_1132 ?_
  rw [show nI 0 + nI 3 = nI 3 from by decide]
  refine va_sld hx hb hX hbl hbA hS (vp_in_nI (n := 3) (by decide) (by decide)) dL_law_1133 ?_
  rw [nI_clamp (n := 3) (by decide)]
  refine lv_if_eq (tgt := 1141) hx hb dL_law_1134 (by decide) (fun c1134 => ?_) (fun c1134 => ?_)
  ·
    refine lv_iconst (v := nI 0) hx hb dL_law_1141 (by decide) ?_
    refine lv_aload_n hx hb dL_law_1142 rfl (lv_at hl 2 rfl) ?_
    have hF := va_free (wc := [(h0, .inr (7, [.ref a, .int (nI 0), .int (nI 8), .int (nI 0), .int (nI 0), .int (nI 0), .int (nI 0)])), (a, .inl (kA 2, 4, .inr (.inr (.inr (.inr (fun _ => none)))))), (o, .inl (kA 4, 1, .inr (.inl (fun _ => 0))))]) hD hS hA [0, 1, 4] rfl
    refine va_calli (vx_runSW (As := [.ref h0, .int (xs 1), .int (xs 2), .int (nI 0), .ref o]) (rest := []) ⟨hx, hb, hml, hown, hts⟩ (c_L_turn_e l D kA z hfl h0 a o (xs 1) (xs 2) (nI 0) (fun _ => 0)  _) (vx_cwSW 5 hts h_law_31 rfl rfl rfl (by decide +kernel) ⟨Nat.le_of_ble_eq_true rfl, Nat.le_of_ble_eq_true rfl⟩) (fPs hK hP hD hS hG hF [0, 1, 4] (by decide) rfl) rfl rfl hl.1 rfl (lv_room (Nat.le_of_ble_eq_true rfl)) dL_law_1143 ⟨Nat.le_of_ble_eq_true rfl, Nat.le_of_ble_eq_true rfl⟩) hS (fun q _ h => hF q h) hF (fun r_1 w1 t H locs ht hvm hw hB hz1 hk1 hS => ?_)
    obtain ⟨hP, hD⟩ := fJ (wr := [(h1, .inr (11, [.int (nI 0), .ref q, .int (nI 8), .int (nI 0), .int (nI 0), .int (nI 0), .int (nI 0), .long 0])), (q, .inr (1, [.int (nI 0), .ref z, .int (nI 0)])), (od, .inl (kA 5, 1, .inr (.inr (.inr (.inl (fun _ => 0))))))]) hP hD [0, 1, 4] [2, 3, 5] rfl rfl (by decide) (by decide) hk1 hF ht hB
    try dsimp only at hw
    obtain ⟨rfl, e_1⟩ := hw
    replace e_1 := e_1.symm
    subst e_1
    have hP : va_P D vwCl [(h1, .inr (11, [.int (nI 0), .ref q, .int (nI 8), .int (nI 0), .int (nI 0), .int (nI 0), .int (nI 0), .long 0])), (q, .inr (1, [.int (nI 0), .ref z, .int (nI 0)])), (od, .inl (kA 5, 1, .inr (.inr (.inr (.inl (fun _ => 0)))))), (h0, .inr (7, [.ref a, .int (nI 0), .int (nI 8), .int (nI 0), .int (nI 0), .int (nI 0), .int (nI 0)])), (a, .inl (kA 2, 4, .inr (.inr (.inr (.inr (fun _ => none)))))), (o, .inl (kA 4, 1, .inr (.inl (fun _ => 0))))] H := hP
    have hD : va_D A [(h1, .inr (11, [.int (nI 0), .ref q, .int (nI 8), .int (nI 0), .int (nI 0), .int (nI 0), .int (nI 0), .long 0])), (q, .inr (1, [.int (nI 0), .ref z, .int (nI 0)])), (od, .inl (kA 5, 1, .inr (.inr (.inr (.inl (fun _ => 0)))))), (h0, .inr (7, [.ref a, .int (nI 0), .int (nI 8), .int (nI 0), .int (nI 0), .int (nI 0), .int (nI 0)])), (a, .inl (kA 2, 4, .inr (.inr (.inr (.inr (fun _ => none)))))), (o, .inl (kA 4, 1, .inr (.inl (fun _ => 0))))] := hD
    refine lv_istore (lv' := [(6, .int (nI 1)), (5, .int (nI 0)), (4, .ref od), (3, .ref o), (2, .ref h1), (1, .ref h0), (0, .ref b)]) hx hb dL_law_1146 hl (by decide) rfl (fun ls hl => ?_)
    refine lv_aload_n hx hb dL_law_1148 rfl (lv_at hl 4 rfl) ?_
    refine lv_aload_n hx hb dL_law_1149 rfl (lv_at hl 6 rfl) ?_
    refine lv_iload hx hb dL_law_1150 (lv_at hl 1 rfl) ?_
    refine lv_iconst (v := nI 1) hx hb dL_law_1152 (by decide) ?_
    refine lv_iadd hx hb dL_law_1153 ?_
    rw [show nI 0 + nI 1 = nI 1 from by decide]
    refine va_sld hx hb hX hbl hbA hS (vp_in_nI (n := 1) (by decide) (by decide)) dL_law_1154 ?_
    rw [nI_clamp (n := 1) (by decide)]
    refine lv_aload_n hx hb dL_law_1155 rfl (lv_at hl 6 rfl) ?_
    refine lv_iload hx hb dL_law_1156 (lv_at hl 1 rfl) ?_
    refine lv_iconst (v := nI 2) hx hb dL_law_1158 (by decide) ?_
    refine lv_iadd hx hb dL_law_1159 ?_
    rw [show nI 0 + nI 2 = nI 2 from by decide]
    refine va_sld hx hb hX hbl hbA hS (vp_in_nI (n := 2) (by decide) (by decide)) dL_law_1160 ?_
    rw [nI_clamp (n := 2) (by decide)]
    refine lv_aload_n hx hb dL_law_1161 rfl (lv_at hl 6 rfl) ?_
    refine lv_iload hx hb dL_law_1162 (lv_at hl 1 rfl) ?_
    refine lv_iconst (v := nI 3) hx hb dL_law_1164 (by decide) ?_
    refine lv_iadd hx hb dL_law_1165 ?_
    rw [show nI 0 + nI 3 = nI 3 from by decide]
    refine va_sld hx hb hX hbl hbA hS (vp_in_nI (n := 3) (by decide) (by decide)) dL_law_1166 ?_
    rw [nI_clamp (n := 3) (by decide)]
    refine lv_if_eq (tgt := 1174) hx hb dL_law_1167 (by decide) (fun c1167 => ?_) (fun c1167 => ?_)
    ·
      refine lv_iconst (v := nI 0) hx hb dL_law_1174 (by decide) ?_
      have hF := va_free (wc := [(h1, .inr (11, [.int (nI 0), .ref q, .int (nI 8), .int (nI 0), .int (nI 0), .int (nI 0), .int (nI 0), .long 0])), (q, .inr (1, [.int (nI 0), .ref z, .int (nI 0)]))]) hD hS hA [0, 1] rfl
      refine va_calli (va_runV (As := [.int (xs 1), .int (xs 2), .int (nI 0)]) (rest := []) ⟨hx, hb, hml, hown, hts⟩ (c_X10_turn_e l D kA z h1 q (nI 0) (xs 1) (xs 2) (nI 0)  _) (cwV 3 hts h_law_32 rfl rfl rfl (by decide +kernel) ⟨Nat.le_of_ble_eq_true rfl, Nat.le_of_ble_eq_true rfl⟩) (fPv hK hP hD hS hG hF [0, 1] (by decide) rfl 0 11 rfl rfl rfl) rfl rfl hl.1 rfl (lv_room (Nat.le_of_ble_eq_true rfl)) dL_law_1175 ⟨Nat.le_of_ble_eq_true rfl, Nat.le_of_ble_eq_true rfl⟩) hS (fun q _ h => hF q h) hF (fun r_2 w1 t H locs ht hvm hw hB hz1 hk1 hS => ?_)
      obtain ⟨hP, hD⟩ := fJ (wr := [(od, .inl (kA 5, 1, .inr (.inr (.inr (.inl (fun _ => 0)))))), (h0, .inr (7, [.ref a, .int (nI 0), .int (nI 8), .int (nI 0), .int (nI 0), .int (nI 0), .int (nI 0)])), (a, .inl (kA 2, 4, .inr (.inr (.inr (.inr (fun _ => none)))))), (o, .inl (kA 4, 1, .inr (.inl (fun _ => 0))))]) hP hD [0, 1] [2, 3, 4, 5] rfl rfl (by decide) (by decide) hk1 hF ht hB
      try dsimp only at hw
      subst hw
      have hP : va_P D vwCl [(od, .inl (kA 5, 1, .inr (.inr (.inr (.inl (fun _ => 0)))))), (h0, .inr (7, [.ref a, .int (nI 0), .int (nI 8), .int (nI 0), .int (nI 0), .int (nI 0), .int (nI 0)])), (a, .inl (kA 2, 4, .inr (.inr (.inr (.inr (fun _ => none)))))), (o, .inl (kA 4, 1, .inr (.inl (fun _ => 0)))), (h1, .inr (11, [.int (nI 1), .ref q, .int (nI 8), .int (nI 0), .int (nI 0), .int (nI 0), .int (nI 0), .long 0])), (q, .inr (1, [.int (nI 0), .ref z, .int (nI 0)]))] H := hP
      have hD : va_D A [(od, .inl (kA 5, 1, .inr (.inr (.inr (.inl (fun _ => 0)))))), (h0, .inr (7, [.ref a, .int (nI 0), .int (nI 8), .int (nI 0), .int (nI 0), .int (nI 0), .int (nI 0)])), (a, .inl (kA 2, 4, .inr (.inr (.inr (.inr (fun _ => none)))))), (o, .inl (kA 4, 1, .inr (.inl (fun _ => 0)))), (h1, .inr (11, [.int (nI 1), .ref q, .int (nI 8), .int (nI 0), .int (nI 0), .int (nI 0), .int (nI 0), .long 0])), (q, .inr (1, [.int (nI 0), .ref z, .int (nI 0)]))] := hD
      refine lv_istore (lv' := [(7, .int r_2), (6, .int (nI 1)), (5, .int (nI 0)), (4, .ref od), (3, .ref o), (2, .ref h1), (1, .ref h0), (0, .ref b)]) hx hb dL_law_1178 hl (by decide) rfl (fun ls hl => ?_)
      refine lv_aload_n hx hb dL_law_1180 rfl (lv_at hl 5 rfl) ?_
      have hF := va_free (wc := [(h1, .inr (11, [.int (nI 1), .ref q, .int (nI 8), .int (nI 0), .int (nI 0), .int (nI 0), .int (nI 0), .long 0]))]) hD hS hA [4] rfl
      refine va_calli (va_runV (As := []) (rest := []) ⟨hx, hb, hml, hown, hts⟩ (c_X10_thrown l D kA z h1 q (nI 1) (nI 8) (nI 0) (nI 0) (nI 0) (nI 0) 0  _) (cwV 0 hts h_law_2 rfl rfl rfl (by decide +kernel) ⟨Nat.le_of_ble_eq_true rfl, Nat.le_of_ble_eq_true rfl⟩) (fPv hK hP hD hS hG hF [4] (by decide) rfl 4 11 rfl rfl rfl) rfl rfl hl.1 rfl (lv_room (Nat.le_of_ble_eq_true rfl)) dL_law_1181 ⟨Nat.le_of_ble_eq_true rfl, Nat.le_of_ble_eq_true rfl⟩) hS (fun q _ h => hF q h) hF (fun r_3 w1 t H locs ht hvm hw hB hz1 hk1 hS => ?_)
      obtain ⟨hP, hD⟩ := fJ (wr := [(od, .inl (kA 5, 1, .inr (.inr (.inr (.inl (fun _ => 0)))))), (h0, .inr (7, [.ref a, .int (nI 0), .int (nI 8), .int (nI 0), .int (nI 0), .int (nI 0), .int (nI 0)])), (a, .inl (kA 2, 4, .inr (.inr (.inr (.inr (fun _ => none)))))), (o, .inl (kA 4, 1, .inr (.inl (fun _ => 0)))), (q, .inr (1, [.int (nI 0), .ref z, .int (nI 0)]))]) hP hD [4] [0, 1, 2, 3, 5] rfl rfl (by decide) (by decide) hk1 hF ht hB
      try dsimp only at hw
      obtain ⟨rfl, e_2⟩ := hw
      replace e_2 := e_2.symm
      subst e_2
      have hP : va_P D vwCl [(od, .inl (kA 5, 1, .inr (.inr (.inr (.inl (fun _ => 0)))))), (h0, .inr (7, [.ref a, .int (nI 0), .int (nI 8), .int (nI 0), .int (nI 0), .int (nI 0), .int (nI 0)])), (a, .inl (kA 2, 4, .inr (.inr (.inr (.inr (fun _ => none)))))), (o, .inl (kA 4, 1, .inr (.inl (fun _ => 0)))), (q, .inr (1, [.int (nI 0), .ref z, .int (nI 0)])), (h1, .inr (11, [.int (nI 1), .ref q, .int (nI 8), .int (nI 0), .int (nI 0), .int (nI 0), .int (nI 0), .long 0]))] H := hP
      have hD : va_D A [(od, .inl (kA 5, 1, .inr (.inr (.inr (.inl (fun _ => 0)))))), (h0, .inr (7, [.ref a, .int (nI 0), .int (nI 8), .int (nI 0), .int (nI 0), .int (nI 0), .int (nI 0)])), (a, .inl (kA 2, 4, .inr (.inr (.inr (.inr (fun _ => none)))))), (o, .inl (kA 4, 1, .inr (.inl (fun _ => 0)))), (q, .inr (1, [.int (nI 0), .ref z, .int (nI 0)])), (h1, .inr (11, [.int (nI 1), .ref q, .int (nI 8), .int (nI 0), .int (nI 0), .int (nI 0), .int (nI 0), .long 0]))] := hD
      refine lv_iload hx hb dL_law_1184 (lv_at hl 1 rfl) ?_
      refine lv_icmp_eq (tgt := 1191) hx hb dL_law_1186 (by decide) (fun _ => ?_) (fun c1186 => absurd (by decide) c1186)
      refine lv_iload hx hb dL_law_1191 (lv_at hl 1 rfl) ?_
      refine lv_if_ne (tgt := 1208) hx hb dL_law_1193 (by decide) (fun _ => ?_) (fun c1193 => absurd c1193 (by decide))
      refine lv_goto (tgt := 1775) hx hb dL_law_1208 (by decide) ?_
      subst hAe
      exact law_tail C0 hS (lv_sub hl [2, 7] rfl) (Nat.le_of_ble_eq_true rfl) (Nat.le_of_ble_eq_true rfl)
    ·
      refine lv_iconst (v := nI 1) hx hb dL_law_1170 (by decide) ?_
      refine lv_goto (tgt := 1175) hx hb dL_law_1171 (by decide) ?_
      have hF := va_free (wc := [(h1, .inr (11, [.int (nI 0), .ref q, .int (nI 8), .int (nI 0), .int (nI 0), .int (nI 0), .int (nI 0), .long 0])), (q, .inr (1, [.int (nI 0), .ref z, .int (nI 0)]))]) hD hS hA [0, 1] rfl
      refine va_calli (va_runV (As := [.int (xs 1), .int (xs 2), .int (nI 1)]) (rest := []) ⟨hx, hb, hml, hown, hts⟩ (c_X10_turn_e l D kA z h1 q (nI 0) (xs 1) (xs 2) (nI 1)  _) (cwV 3 hts h_law_32 rfl rfl rfl (by decide +kernel) ⟨Nat.le_of_ble_eq_true rfl, Nat.le_of_ble_eq_true rfl⟩) (fPv hK hP hD hS hG hF [0, 1] (by decide) rfl 0 11 rfl rfl rfl) rfl rfl hl.1 rfl (lv_room (Nat.le_of_ble_eq_true rfl)) dL_law_1175 ⟨Nat.le_of_ble_eq_true rfl, Nat.le_of_ble_eq_true rfl⟩) hS (fun q _ h => hF q h) hF (fun r_4 w1 t H locs ht hvm hw hB hz1 hk1 hS => ?_)
      obtain ⟨hP, hD⟩ := fJ (wr := [(od, .inl (kA 5, 1, .inr (.inr (.inr (.inl (fun _ => 0)))))), (h0, .inr (7, [.ref a, .int (nI 0), .int (nI 8), .int (nI 0), .int (nI 0), .int (nI 0), .int (nI 0)])), (a, .inl (kA 2, 4, .inr (.inr (.inr (.inr (fun _ => none)))))), (o, .inl (kA 4, 1, .inr (.inl (fun _ => 0))))]) hP hD [0, 1] [2, 3, 4, 5] rfl rfl (by decide) (by decide) hk1 hF ht hB
      try dsimp only at hw
      subst hw
      have hP : va_P D vwCl [(od, .inl (kA 5, 1, .inr (.inr (.inr (.inl (fun _ => 0)))))), (h0, .inr (7, [.ref a, .int (nI 0), .int (nI 8), .int (nI 0), .int (nI 0), .int (nI 0), .int (nI 0)])), (a, .inl (kA 2, 4, .inr (.inr (.inr (.inr (fun _ => none)))))), (o, .inl (kA 4, 1, .inr (.inl (fun _ => 0)))), (h1, .inr (11, [.int (nI 1), .ref q, .int (nI 8), .int (nI 0), .int (nI 0), .int (nI 0), .int (nI 0), .long 0])), (q, .inr (1, [.int (nI 0), .ref z, .int (nI 0)]))] H := hP
      have hD : va_D A [(od, .inl (kA 5, 1, .inr (.inr (.inr (.inl (fun _ => 0)))))), (h0, .inr (7, [.ref a, .int (nI 0), .int (nI 8), .int (nI 0), .int (nI 0), .int (nI 0), .int (nI 0)])), (a, .inl (kA 2, 4, .inr (.inr (.inr (.inr (fun _ => none)))))), (o, .inl (kA 4, 1, .inr (.inl (fun _ => 0)))), (h1, .inr (11, [.int (nI 1), .ref q, .int (nI 8), .int (nI 0), .int (nI 0), .int (nI 0), .int (nI 0), .long 0])), (q, .inr (1, [.int (nI 0), .ref z, .int (nI 0)]))] := hD
      refine lv_istore (lv' := [(7, .int r_4), (6, .int (nI 1)), (5, .int (nI 0)), (4, .ref od), (3, .ref o), (2, .ref h1), (1, .ref h0), (0, .ref b)]) hx hb dL_law_1178 hl (by decide) rfl (fun ls hl => ?_)
      refine lv_aload_n hx hb dL_law_1180 rfl (lv_at hl 5 rfl) ?_
      have hF := va_free (wc := [(h1, .inr (11, [.int (nI 1), .ref q, .int (nI 8), .int (nI 0), .int (nI 0), .int (nI 0), .int (nI 0), .long 0]))]) hD hS hA [4] rfl
      refine va_calli (va_runV (As := []) (rest := []) ⟨hx, hb, hml, hown, hts⟩ (c_X10_thrown l D kA z h1 q (nI 1) (nI 8) (nI 0) (nI 0) (nI 0) (nI 0) 0  _) (cwV 0 hts h_law_2 rfl rfl rfl (by decide +kernel) ⟨Nat.le_of_ble_eq_true rfl, Nat.le_of_ble_eq_true rfl⟩) (fPv hK hP hD hS hG hF [4] (by decide) rfl 4 11 rfl rfl rfl) rfl rfl hl.1 rfl (lv_room (Nat.le_of_ble_eq_true rfl)) dL_law_1181 ⟨Nat.le_of_ble_eq_true rfl, Nat.le_of_ble_eq_true rfl⟩) hS (fun q _ h => hF q h) hF (fun r_5 w1 t H locs ht hvm hw hB hz1 hk1 hS => ?_)
      obtain ⟨hP, hD⟩ := fJ (wr := [(od, .inl (kA 5, 1, .inr (.inr (.inr (.inl (fun _ => 0)))))), (h0, .inr (7, [.ref a, .int (nI 0), .int (nI 8), .int (nI 0), .int (nI 0), .int (nI 0), .int (nI 0)])), (a, .inl (kA 2, 4, .inr (.inr (.inr (.inr (fun _ => none)))))), (o, .inl (kA 4, 1, .inr (.inl (fun _ => 0)))), (q, .inr (1, [.int (nI 0), .ref z, .int (nI 0)]))]) hP hD [4] [0, 1, 2, 3, 5] rfl rfl (by decide) (by decide) hk1 hF ht hB
      try dsimp only at hw
      obtain ⟨rfl, e_3⟩ := hw
      replace e_3 := e_3.symm
      subst e_3
      have hP : va_P D vwCl [(od, .inl (kA 5, 1, .inr (.inr (.inr (.inl (fun _ => 0)))))), (h0, .inr (7, [.ref a, .int (nI 0), .int (nI 8), .int (nI 0), .int (nI 0), .int (nI 0), .int (nI 0)])), (a, .inl (kA 2, 4, .inr (.inr (.inr (.inr (fun _ => none)))))), (o, .inl (kA 4, 1, .inr (.inl (fun _ => 0)))), (q, .inr (1, [.int (nI 0), .ref z, .int (nI 0)])), (h1, .inr (11, [.int (nI 1), .ref q, .int (nI 8), .int (nI 0), .int (nI 0), .int (nI 0), .int (nI 0), .long 0]))] H := hP
      have hD : va_D A [(od, .inl (kA 5, 1, .inr (.inr (.inr (.inl (fun _ => 0)))))), (h0, .inr (7, [.ref a, .int (nI 0), .int (nI 8), .int (nI 0), .int (nI 0), .int (nI 0), .int (nI 0)])), (a, .inl (kA 2, 4, .inr (.inr (.inr (.inr (fun _ => none)))))), (o, .inl (kA 4, 1, .inr (.inl (fun _ => 0)))), (q, .inr (1, [.int (nI 0), .ref z, .int (nI 0)])), (h1, .inr (11, [.int (nI 1), .ref q, .int (nI 8), .int (nI 0), .int (nI 0), .int (nI 0), .int (nI 0), .long 0]))] := hD
      refine lv_iload hx hb dL_law_1184 (lv_at hl 1 rfl) ?_
      refine lv_icmp_eq (tgt := 1191) hx hb dL_law_1186 (by decide) (fun _ => ?_) (fun c1186 => absurd (by decide) c1186)
      refine lv_iload hx hb dL_law_1191 (lv_at hl 1 rfl) ?_
      refine lv_if_ne (tgt := 1208) hx hb dL_law_1193 (by decide) (fun _ => ?_) (fun c1193 => absurd c1193 (by decide))
      refine lv_goto (tgt := 1775) hx hb dL_law_1208 (by decide) ?_
      subst hAe
      exact law_tail C0 hS (lv_sub hl [2, 7] rfl) (Nat.le_of_ble_eq_true rfl) (Nat.le_of_ble_eq_true rfl)
  ·
    refine lv_iconst (v := nI 1) hx hb dL_law_1137 (by decide) ?_
    refine lv_goto (tgt := 1142) hx hb dL_law_1138 (by decide) ?_
    refine lv_aload_n hx hb dL_law_1142 rfl (lv_at hl 2 rfl) ?_
    have hF := va_free (wc := [(h0, .inr (7, [.ref a, .int (nI 0), .int (nI 8), .int (nI 0), .int (nI 0), .int (nI 0), .int (nI 0)])), (a, .inl (kA 2, 4, .inr (.inr (.inr (.inr (fun _ => none)))))), (o, .inl (kA 4, 1, .inr (.inl (fun _ => 0))))]) hD hS hA [0, 1, 4] rfl
    refine va_calli (vx_runSW (As := [.ref h0, .int (xs 1), .int (xs 2), .int (nI 1), .ref o]) (rest := []) ⟨hx, hb, hml, hown, hts⟩ (c_L_turn_e l D kA z hfl h0 a o (xs 1) (xs 2) (nI 1) (fun _ => 0)  _) (vx_cwSW 5 hts h_law_31 rfl rfl rfl (by decide +kernel) ⟨Nat.le_of_ble_eq_true rfl, Nat.le_of_ble_eq_true rfl⟩) (fPs hK hP hD hS hG hF [0, 1, 4] (by decide) rfl) rfl rfl hl.1 rfl (lv_room (Nat.le_of_ble_eq_true rfl)) dL_law_1143 ⟨Nat.le_of_ble_eq_true rfl, Nat.le_of_ble_eq_true rfl⟩) hS (fun q _ h => hF q h) hF (fun r_6 w1 t H locs ht hvm hw hB hz1 hk1 hS => ?_)
    obtain ⟨hP, hD⟩ := fJ (wr := [(h1, .inr (11, [.int (nI 0), .ref q, .int (nI 8), .int (nI 0), .int (nI 0), .int (nI 0), .int (nI 0), .long 0])), (q, .inr (1, [.int (nI 0), .ref z, .int (nI 0)])), (od, .inl (kA 5, 1, .inr (.inr (.inr (.inl (fun _ => 0))))))]) hP hD [0, 1, 4] [2, 3, 5] rfl rfl (by decide) (by decide) hk1 hF ht hB
    try dsimp only at hw
    obtain ⟨rfl, e_4⟩ := hw
    replace e_4 := e_4.symm
    subst e_4
    have hP : va_P D vwCl [(h1, .inr (11, [.int (nI 0), .ref q, .int (nI 8), .int (nI 0), .int (nI 0), .int (nI 0), .int (nI 0), .long 0])), (q, .inr (1, [.int (nI 0), .ref z, .int (nI 0)])), (od, .inl (kA 5, 1, .inr (.inr (.inr (.inl (fun _ => 0)))))), (h0, .inr (7, [.ref a, .int (nI 0), .int (nI 8), .int (nI 0), .int (nI 0), .int (nI 0), .int (nI 0)])), (a, .inl (kA 2, 4, .inr (.inr (.inr (.inr (fun _ => none)))))), (o, .inl (kA 4, 1, .inr (.inl (fun _ => 0))))] H := hP
    have hD : va_D A [(h1, .inr (11, [.int (nI 0), .ref q, .int (nI 8), .int (nI 0), .int (nI 0), .int (nI 0), .int (nI 0), .long 0])), (q, .inr (1, [.int (nI 0), .ref z, .int (nI 0)])), (od, .inl (kA 5, 1, .inr (.inr (.inr (.inl (fun _ => 0)))))), (h0, .inr (7, [.ref a, .int (nI 0), .int (nI 8), .int (nI 0), .int (nI 0), .int (nI 0), .int (nI 0)])), (a, .inl (kA 2, 4, .inr (.inr (.inr (.inr (fun _ => none)))))), (o, .inl (kA 4, 1, .inr (.inl (fun _ => 0))))] := hD
    refine lv_istore (lv' := [(6, .int (nI 1)), (5, .int (nI 0)), (4, .ref od), (3, .ref o), (2, .ref h1), (1, .ref h0), (0, .ref b)]) hx hb dL_law_1146 hl (by decide) rfl (fun ls hl => ?_)
    refine lv_aload_n hx hb dL_law_1148 rfl (lv_at hl 4 rfl) ?_
    refine lv_aload_n hx hb dL_law_1149 rfl (lv_at hl 6 rfl) ?_
    refine lv_iload hx hb dL_law_1150 (lv_at hl 1 rfl) ?_
    refine lv_iconst (v := nI 1) hx hb dL_law_1152 (by decide) ?_
    refine lv_iadd hx hb dL_law_1153 ?_
    rw [show nI 0 + nI 1 = nI 1 from by decide]
    refine va_sld hx hb hX hbl hbA hS (vp_in_nI (n := 1) (by decide) (by decide)) dL_law_1154 ?_
    rw [nI_clamp (n := 1) (by decide)]
    refine lv_aload_n hx hb dL_law_1155 rfl (lv_at hl 6 rfl) ?_
    refine lv_iload hx hb dL_law_1156 (lv_at hl 1 rfl) ?_
    refine lv_iconst (v := nI 2) hx hb dL_law_1158 (by decide) ?_
    refine lv_iadd hx hb dL_law_1159 ?_
    rw [show nI 0 + nI 2 = nI 2 from by decide]
    refine va_sld hx hb hX hbl hbA hS (vp_in_nI (n := 2) (by decide) (by decide)) dL_law_1160 ?_
    rw [nI_clamp (n := 2) (by decide)]
    refine lv_aload_n hx hb dL_law_1161 rfl (lv_at hl 6 rfl) ?_
    refine lv_iload hx hb dL_law_1162 (lv_at hl 1 rfl) ?_
    refine lv_iconst (v := nI 3) hx hb dL_law_1164 (by decide) ?_
    refine lv_iadd hx hb dL_law_1165 ?_
    rw [show nI 0 + nI 3 = nI 3 from by decide]
    refine va_sld hx hb hX hbl hbA hS (vp_in_nI (n := 3) (by decide) (by decide)) dL_law_1166 ?_
    rw [nI_clamp (n := 3) (by decide)]
    refine lv_if_eq (tgt := 1174) hx hb dL_law_1167 (by decide) (fun c1167 => ?_) (fun c1167 => ?_)
    ·
      refine lv_iconst (v := nI 0) hx hb dL_law_1174 (by decide) ?_
      have hF := va_free (wc := [(h1, .inr (11, [.int (nI 0), .ref q, .int (nI 8), .int (nI 0), .int (nI 0), .int (nI 0), .int (nI 0), .long 0])), (q, .inr (1, [.int (nI 0), .ref z, .int (nI 0)]))]) hD hS hA [0, 1] rfl
      refine va_calli (va_runV (As := [.int (xs 1), .int (xs 2), .int (nI 0)]) (rest := []) ⟨hx, hb, hml, hown, hts⟩ (c_X10_turn_e l D kA z h1 q (nI 0) (xs 1) (xs 2) (nI 0)  _) (cwV 3 hts h_law_32 rfl rfl rfl (by decide +kernel) ⟨Nat.le_of_ble_eq_true rfl, Nat.le_of_ble_eq_true rfl⟩) (fPv hK hP hD hS hG hF [0, 1] (by decide) rfl 0 11 rfl rfl rfl) rfl rfl hl.1 rfl (lv_room (Nat.le_of_ble_eq_true rfl)) dL_law_1175 ⟨Nat.le_of_ble_eq_true rfl, Nat.le_of_ble_eq_true rfl⟩) hS (fun q _ h => hF q h) hF (fun r_7 w1 t H locs ht hvm hw hB hz1 hk1 hS => ?_)
      obtain ⟨hP, hD⟩ := fJ (wr := [(od, .inl (kA 5, 1, .inr (.inr (.inr (.inl (fun _ => 0)))))), (h0, .inr (7, [.ref a, .int (nI 0), .int (nI 8), .int (nI 0), .int (nI 0), .int (nI 0), .int (nI 0)])), (a, .inl (kA 2, 4, .inr (.inr (.inr (.inr (fun _ => none)))))), (o, .inl (kA 4, 1, .inr (.inl (fun _ => 0))))]) hP hD [0, 1] [2, 3, 4, 5] rfl rfl (by decide) (by decide) hk1 hF ht hB
      try dsimp only at hw
      subst hw
      have hP : va_P D vwCl [(od, .inl (kA 5, 1, .inr (.inr (.inr (.inl (fun _ => 0)))))), (h0, .inr (7, [.ref a, .int (nI 0), .int (nI 8), .int (nI 0), .int (nI 0), .int (nI 0), .int (nI 0)])), (a, .inl (kA 2, 4, .inr (.inr (.inr (.inr (fun _ => none)))))), (o, .inl (kA 4, 1, .inr (.inl (fun _ => 0)))), (h1, .inr (11, [.int (nI 1), .ref q, .int (nI 8), .int (nI 0), .int (nI 0), .int (nI 0), .int (nI 0), .long 0])), (q, .inr (1, [.int (nI 0), .ref z, .int (nI 0)]))] H := hP
      have hD : va_D A [(od, .inl (kA 5, 1, .inr (.inr (.inr (.inl (fun _ => 0)))))), (h0, .inr (7, [.ref a, .int (nI 0), .int (nI 8), .int (nI 0), .int (nI 0), .int (nI 0), .int (nI 0)])), (a, .inl (kA 2, 4, .inr (.inr (.inr (.inr (fun _ => none)))))), (o, .inl (kA 4, 1, .inr (.inl (fun _ => 0)))), (h1, .inr (11, [.int (nI 1), .ref q, .int (nI 8), .int (nI 0), .int (nI 0), .int (nI 0), .int (nI 0), .long 0])), (q, .inr (1, [.int (nI 0), .ref z, .int (nI 0)]))] := hD
      refine lv_istore (lv' := [(7, .int r_7), (6, .int (nI 1)), (5, .int (nI 0)), (4, .ref od), (3, .ref o), (2, .ref h1), (1, .ref h0), (0, .ref b)]) hx hb dL_law_1178 hl (by decide) rfl (fun ls hl => ?_)
      refine lv_aload_n hx hb dL_law_1180 rfl (lv_at hl 5 rfl) ?_
      have hF := va_free (wc := [(h1, .inr (11, [.int (nI 1), .ref q, .int (nI 8), .int (nI 0), .int (nI 0), .int (nI 0), .int (nI 0), .long 0]))]) hD hS hA [4] rfl
      refine va_calli (va_runV (As := []) (rest := []) ⟨hx, hb, hml, hown, hts⟩ (c_X10_thrown l D kA z h1 q (nI 1) (nI 8) (nI 0) (nI 0) (nI 0) (nI 0) 0  _) (cwV 0 hts h_law_2 rfl rfl rfl (by decide +kernel) ⟨Nat.le_of_ble_eq_true rfl, Nat.le_of_ble_eq_true rfl⟩) (fPv hK hP hD hS hG hF [4] (by decide) rfl 4 11 rfl rfl rfl) rfl rfl hl.1 rfl (lv_room (Nat.le_of_ble_eq_true rfl)) dL_law_1181 ⟨Nat.le_of_ble_eq_true rfl, Nat.le_of_ble_eq_true rfl⟩) hS (fun q _ h => hF q h) hF (fun r_8 w1 t H locs ht hvm hw hB hz1 hk1 hS => ?_)
      obtain ⟨hP, hD⟩ := fJ (wr := [(od, .inl (kA 5, 1, .inr (.inr (.inr (.inl (fun _ => 0)))))), (h0, .inr (7, [.ref a, .int (nI 0), .int (nI 8), .int (nI 0), .int (nI 0), .int (nI 0), .int (nI 0)])), (a, .inl (kA 2, 4, .inr (.inr (.inr (.inr (fun _ => none)))))), (o, .inl (kA 4, 1, .inr (.inl (fun _ => 0)))), (q, .inr (1, [.int (nI 0), .ref z, .int (nI 0)]))]) hP hD [4] [0, 1, 2, 3, 5] rfl rfl (by decide) (by decide) hk1 hF ht hB
      try dsimp only at hw
      obtain ⟨rfl, e_5⟩ := hw
      replace e_5 := e_5.symm
      subst e_5
      have hP : va_P D vwCl [(od, .inl (kA 5, 1, .inr (.inr (.inr (.inl (fun _ => 0)))))), (h0, .inr (7, [.ref a, .int (nI 0), .int (nI 8), .int (nI 0), .int (nI 0), .int (nI 0), .int (nI 0)])), (a, .inl (kA 2, 4, .inr (.inr (.inr (.inr (fun _ => none)))))), (o, .inl (kA 4, 1, .inr (.inl (fun _ => 0)))), (q, .inr (1, [.int (nI 0), .ref z, .int (nI 0)])), (h1, .inr (11, [.int (nI 1), .ref q, .int (nI 8), .int (nI 0), .int (nI 0), .int (nI 0), .int (nI 0), .long 0]))] H := hP
      have hD : va_D A [(od, .inl (kA 5, 1, .inr (.inr (.inr (.inl (fun _ => 0)))))), (h0, .inr (7, [.ref a, .int (nI 0), .int (nI 8), .int (nI 0), .int (nI 0), .int (nI 0), .int (nI 0)])), (a, .inl (kA 2, 4, .inr (.inr (.inr (.inr (fun _ => none)))))), (o, .inl (kA 4, 1, .inr (.inl (fun _ => 0)))), (q, .inr (1, [.int (nI 0), .ref z, .int (nI 0)])), (h1, .inr (11, [.int (nI 1), .ref q, .int (nI 8), .int (nI 0), .int (nI 0), .int (nI 0), .int (nI 0), .long 0]))] := hD
      refine lv_iload hx hb dL_law_1184 (lv_at hl 1 rfl) ?_
      refine lv_icmp_eq (tgt := 1191) hx hb dL_law_1186 (by decide) (fun _ => ?_) (fun c1186 => absurd (by decide) c1186)
      refine lv_iload hx hb dL_law_1191 (lv_at hl 1 rfl) ?_
      refine lv_if_ne (tgt := 1208) hx hb dL_law_1193 (by decide) (fun _ => ?_) (fun c1193 => absurd c1193 (by decide))
      refine lv_goto (tgt := 1775) hx hb dL_law_1208 (by decide) ?_
      subst hAe
      exact law_tail C0 hS (lv_sub hl [2, 7] rfl) (Nat.le_of_ble_eq_true rfl) (Nat.le_of_ble_eq_true rfl)
    ·
      refine lv_iconst (v := nI 1) hx hb dL_law_1170 (by decide) ?_
      refine lv_goto (tgt := 1175) hx hb dL_law_1171 (by decide) ?_
      have hF := va_free (wc := [(h1, .inr (11, [.int (nI 0), .ref q, .int (nI 8), .int (nI 0), .int (nI 0), .int (nI 0), .int (nI 0), .long 0])), (q, .inr (1, [.int (nI 0), .ref z, .int (nI 0)]))]) hD hS hA [0, 1] rfl
      refine va_calli (va_runV (As := [.int (xs 1), .int (xs 2), .int (nI 1)]) (rest := []) ⟨hx, hb, hml, hown, hts⟩ (c_X10_turn_e l D kA z h1 q (nI 0) (xs 1) (xs 2) (nI 1)  _) (cwV 3 hts h_law_32 rfl rfl rfl (by decide +kernel) ⟨Nat.le_of_ble_eq_true rfl, Nat.le_of_ble_eq_true rfl⟩) (fPv hK hP hD hS hG hF [0, 1] (by decide) rfl 0 11 rfl rfl rfl) rfl rfl hl.1 rfl (lv_room (Nat.le_of_ble_eq_true rfl)) dL_law_1175 ⟨Nat.le_of_ble_eq_true rfl, Nat.le_of_ble_eq_true rfl⟩) hS (fun q _ h => hF q h) hF (fun r_9 w1 t H locs ht hvm hw hB hz1 hk1 hS => ?_)
      obtain ⟨hP, hD⟩ := fJ (wr := [(od, .inl (kA 5, 1, .inr (.inr (.inr (.inl (fun _ => 0)))))), (h0, .inr (7, [.ref a, .int (nI 0), .int (nI 8), .int (nI 0), .int (nI 0), .int (nI 0), .int (nI 0)])), (a, .inl (kA 2, 4, .inr (.inr (.inr (.inr (fun _ => none)))))), (o, .inl (kA 4, 1, .inr (.inl (fun _ => 0))))]) hP hD [0, 1] [2, 3, 4, 5] rfl rfl (by decide) (by decide) hk1 hF ht hB
      try dsimp only at hw
      subst hw
      have hP : va_P D vwCl [(od, .inl (kA 5, 1, .inr (.inr (.inr (.inl (fun _ => 0)))))), (h0, .inr (7, [.ref a, .int (nI 0), .int (nI 8), .int (nI 0), .int (nI 0), .int (nI 0), .int (nI 0)])), (a, .inl (kA 2, 4, .inr (.inr (.inr (.inr (fun _ => none)))))), (o, .inl (kA 4, 1, .inr (.inl (fun _ => 0)))), (h1, .inr (11, [.int (nI 1), .ref q, .int (nI 8), .int (nI 0), .int (nI 0), .int (nI 0), .int (nI 0), .long 0])), (q, .inr (1, [.int (nI 0), .ref z, .int (nI 0)]))] H := hP
      have hD : va_D A [(od, .inl (kA 5, 1, .inr (.inr (.inr (.inl (fun _ => 0)))))), (h0, .inr (7, [.ref a, .int (nI 0), .int (nI 8), .int (nI 0), .int (nI 0), .int (nI 0), .int (nI 0)])), (a, .inl (kA 2, 4, .inr (.inr (.inr (.inr (fun _ => none)))))), (o, .inl (kA 4, 1, .inr (.inl (fun _ => 0)))), (h1, .inr (11, [.int (nI 1), .ref q, .int (nI 8), .int (nI 0), .int (nI 0), .int (nI 0), .int (nI 0), .long 0])), (q, .inr (1, [.int (nI 0), .ref z, .int (nI 0)]))] := hD
      refine lv_istore (lv' := [(7, .int r_9), (6, .int (nI 1)), (5, .int (nI 0)), (4, .ref od), (3, .ref o), (2, .ref h1), (1, .ref h0), (0, .ref b)]) hx hb dL_law_1178 hl (by decide) rfl (fun ls hl => ?_)
      refine lv_aload_n hx hb dL_law_1180 rfl (lv_at hl 5 rfl) ?_
      have hF := va_free (wc := [(h1, .inr (11, [.int (nI 1), .ref q, .int (nI 8), .int (nI 0), .int (nI 0), .int (nI 0), .int (nI 0), .long 0]))]) hD hS hA [4] rfl
      refine va_calli (va_runV (As := []) (rest := []) ⟨hx, hb, hml, hown, hts⟩ (c_X10_thrown l D kA z h1 q (nI 1) (nI 8) (nI 0) (nI 0) (nI 0) (nI 0) 0  _) (cwV 0 hts h_law_2 rfl rfl rfl (by decide +kernel) ⟨Nat.le_of_ble_eq_true rfl, Nat.le_of_ble_eq_true rfl⟩) (fPv hK hP hD hS hG hF [4] (by decide) rfl 4 11 rfl rfl rfl) rfl rfl hl.1 rfl (lv_room (Nat.le_of_ble_eq_true rfl)) dL_law_1181 ⟨Nat.le_of_ble_eq_true rfl, Nat.le_of_ble_eq_true rfl⟩) hS (fun q _ h => hF q h) hF (fun r_10 w1 t H locs ht hvm hw hB hz1 hk1 hS => ?_)
      obtain ⟨hP, hD⟩ := fJ (wr := [(od, .inl (kA 5, 1, .inr (.inr (.inr (.inl (fun _ => 0)))))), (h0, .inr (7, [.ref a, .int (nI 0), .int (nI 8), .int (nI 0), .int (nI 0), .int (nI 0), .int (nI 0)])), (a, .inl (kA 2, 4, .inr (.inr (.inr (.inr (fun _ => none)))))), (o, .inl (kA 4, 1, .inr (.inl (fun _ => 0)))), (q, .inr (1, [.int (nI 0), .ref z, .int (nI 0)]))]) hP hD [4] [0, 1, 2, 3, 5] rfl rfl (by decide) (by decide) hk1 hF ht hB
      try dsimp only at hw
      obtain ⟨rfl, e_6⟩ := hw
      replace e_6 := e_6.symm
      subst e_6
      have hP : va_P D vwCl [(od, .inl (kA 5, 1, .inr (.inr (.inr (.inl (fun _ => 0)))))), (h0, .inr (7, [.ref a, .int (nI 0), .int (nI 8), .int (nI 0), .int (nI 0), .int (nI 0), .int (nI 0)])), (a, .inl (kA 2, 4, .inr (.inr (.inr (.inr (fun _ => none)))))), (o, .inl (kA 4, 1, .inr (.inl (fun _ => 0)))), (q, .inr (1, [.int (nI 0), .ref z, .int (nI 0)])), (h1, .inr (11, [.int (nI 1), .ref q, .int (nI 8), .int (nI 0), .int (nI 0), .int (nI 0), .int (nI 0), .long 0]))] H := hP
      have hD : va_D A [(od, .inl (kA 5, 1, .inr (.inr (.inr (.inl (fun _ => 0)))))), (h0, .inr (7, [.ref a, .int (nI 0), .int (nI 8), .int (nI 0), .int (nI 0), .int (nI 0), .int (nI 0)])), (a, .inl (kA 2, 4, .inr (.inr (.inr (.inr (fun _ => none)))))), (o, .inl (kA 4, 1, .inr (.inl (fun _ => 0)))), (q, .inr (1, [.int (nI 0), .ref z, .int (nI 0)])), (h1, .inr (11, [.int (nI 1), .ref q, .int (nI 8), .int (nI 0), .int (nI 0), .int (nI 0), .int (nI 0), .long 0]))] := hD
      refine lv_iload hx hb dL_law_1184 (lv_at hl 1 rfl) ?_
      refine lv_icmp_eq (tgt := 1191) hx hb dL_law_1186 (by decide) (fun _ => ?_) (fun c1186 => absurd (by decide) c1186)
      refine lv_iload hx hb dL_law_1191 (lv_at hl 1 rfl) ?_
      refine lv_if_ne (tgt := 1208) hx hb dL_law_1193 (by decide) (fun _ => ?_) (fun c1193 => absurd c1193 (by decide))
      refine lv_goto (tgt := 1775) hx hb dL_law_1208 (by decide) ?_
      subst hAe
      exact law_tail C0 hS (lv_sub hl [2, 7] rfl) (Nat.le_of_ble_eq_true rfl) (Nat.le_of_ble_eq_true rfl)

set_option maxHeartbeats 16000000 in
set_option maxRecDepth 100000 in
theorem law_case14 {p : Program} {e : Env} {s : State} {m : MethodId} {below : List Frame} {meth : Method} {c : Code} {l : Launch} {b : Nat} {xs : Nat → Int32} (hfl : l.stackTraces = false) (C0 : lw_At p s m meth c b 6 xs) (hts : ∀ w ∈ wq_law, w.before #[Value.ref b] s = true) {D : va_G} {kA : Nat → ClassId} {z : Nat} (hK : va_K D vwCl (tyL kA) s) (hG : gS z (fun q : Nat => s.heap.size ≤ q) s s.heap) {h0 a h1 q o od : Nat} {H : Heap} {locs : List Loc} {ls : Array Slot} (hP : va_P D vwCl [(h0, .inr (7, [.ref a, .int (nI 0), .int (nI 8), .int (nI 0), .int (nI 0), .int (nI 0), .int (nI 0)])), (a, .inl (kA 2, 4, .inr (.inr (.inr (.inr (fun _ => none)))))), (h1, .inr (11, [.int (nI 0), .ref q, .int (nI 8), .int (nI 0), .int (nI 0), .int (nI 0), .int (nI 0), .long 0])), (q, .inr (1, [.int (nI 0), .ref z, .int (nI 0)])), (o, .inl (kA 4, 1, .inr (.inl (fun _ => 0)))), (od, .inl (kA 5, 1, .inr (.inr (.inr (.inl (fun _ => 0))))))] H) (hD : va_D (fun q : Nat => s.heap.size ≤ q) [(h0, .inr (7, [.ref a, .int (nI 0), .int (nI 8), .int (nI 0), .int (nI 0), .int (nI 0), .int (nI 0)])), (a, .inl (kA 2, 4, .inr (.inr (.inr (.inr (fun _ => none)))))), (h1, .inr (11, [.int (nI 0), .ref q, .int (nI 8), .int (nI 0), .int (nI 0), .int (nI 0), .int (nI 0), .long 0])), (q, .inr (1, [.int (nI 0), .ref z, .int (nI 0)])), (o, .inl (kA 4, 1, .inr (.inl (fun _ => 0)))), (od, .inl (kA 5, 1, .inr (.inr (.inr (.inl (fun _ => 0))))))]) (hS : va_S (fun q : Nat => s.heap.size ≤ q) s.heap H locs) (hl : lv_has ls 9 [(5, .int (nI 0)), (4, .ref od), (3, .ref o), (2, .ref h1), (1, .ref h0), (0, .ref b)]) : W p l e room_1 s m #[Value.ref b] below meth c H locs 6 24 (lw_Z below #[Value.ref b] s) (F0 m 1211 ls []) := by
  obtain ⟨hx, hb, hr, hml, hown, hts0, hX, hbl, hlocks, hgv⟩ := id C0
  have hA : ∀ q : Nat, s.heap.size ≤ q → (fun q : Nat => s.heap.size ≤ q) q := fun _ h => h
  have hbA : ¬ (fun q : Nat => s.heap.size ≤ q) b := Nat.not_le.mpr hbl
  generalize hAe : (fun q : Nat => s.heap.size ≤ q) = A at hD hS hA hbA hG
  refine lv_aload_n hx hb dL_law_1211 rfl (lv_at hl 4 rfl) ?_
  refine lv_aload_n hx hb dL_law_1212 rfl (lv_at hl 5 rfl) ?_
  refine lv_iload hx hb dL_law_1213 (lv_at hl 0 rfl) ?_
  refine lv_iconst (v := nI 1) hx hb dL_law_1215 (by decide) ?_
  refine lv_iadd hx hb dL_law_1216 ?_
  rw [show nI 0 + nI 1 = nI 1 from by decide]
  refine va_sld hx hb hX hbl hbA hS (vp_in_nI (n := 1) (by decide) (by decide)) dL_law_1217 ?_
  rw [nI_clamp (n := 1) (by decide)]
  refine lv_aload_n hx hb dL_law_1218 rfl (lv_at hl 5 rfl) ?_
  refine lv_iload hx hb dL_law_1219 (lv_at hl 0 rfl) ?_
  refine lv_iconst (v := nI 2) hx hb dL_law_1221 (by decide) ?_
  refine lv_iadd hx hb dL_law_1222 ?_
  rw [show nI 0 + nI 2 = nI 2 from by decide]
  refine va_sld hx hb hX hbl hbA hS (vp_in_nI (n := 2) (by decide) (by decide)) dL_law_1223 ?_
  rw [nI_clamp (n := 2) (by decide)]
  refine lv_aload hx hb dL_law_1224 (lv_at hl 1 rfl) ?_
  have hF := va_free (wc := [(h0, .inr (7, [.ref a, .int (nI 0), .int (nI 8), .int (nI 0), .int (nI 0), .int (nI 0), .int (nI 0)])), (a, .inl (kA 2, 4, .inr (.inr (.inr (.inr (fun _ => none)))))), (od, .inl (kA 5, 1, .inr (.inr (.inr (.inl (fun _ => 0))))))]) hD hS hA [0, 1, 5] rfl
  refine va_calli (vx_runSW (As := [.ref h0, .int (xs 1), .int (xs 2), .ref od]) (rest := []) ⟨hx, hb, hml, hown, hts⟩ (c_L_period_e l D kA z hfl h0 a od (xs 1) (xs 2) (fun _ => 0)  _) (vx_cwSW 4 hts h_law_33 rfl rfl rfl (by decide +kernel) ⟨Nat.le_of_ble_eq_true rfl, Nat.le_of_ble_eq_true rfl⟩) (fPs hK hP hD hS hG hF [0, 1, 5] (by decide) rfl) rfl rfl hl.1 rfl (lv_room (Nat.le_of_ble_eq_true rfl)) dL_law_1226 ⟨Nat.le_of_ble_eq_true rfl, Nat.le_of_ble_eq_true rfl⟩) hS (fun q _ h => hF q h) hF (fun r_1 w1 t H locs ht hvm hw hB hz1 hk1 hS => ?_)
  obtain ⟨hP, hD⟩ := fJ (wr := [(h1, .inr (11, [.int (nI 0), .ref q, .int (nI 8), .int (nI 0), .int (nI 0), .int (nI 0), .int (nI 0), .long 0])), (q, .inr (1, [.int (nI 0), .ref z, .int (nI 0)])), (o, .inl (kA 4, 1, .inr (.inl (fun _ => 0))))]) hP hD [0, 1, 5] [2, 3, 4] rfl rfl (by decide) (by decide) hk1 hF ht hB
  try dsimp only at hw
  obtain ⟨rfl, e_1⟩ := hw
  replace e_1 := e_1.symm
  subst e_1
  have hP : va_P D vwCl [(h1, .inr (11, [.int (nI 0), .ref q, .int (nI 8), .int (nI 0), .int (nI 0), .int (nI 0), .int (nI 0), .long 0])), (q, .inr (1, [.int (nI 0), .ref z, .int (nI 0)])), (o, .inl (kA 4, 1, .inr (.inl (fun _ => 0)))), (h0, .inr (7, [.ref a, .int (nI 0), .int (nI 8), .int (nI 0), .int (nI 0), .int (nI 0), .int (nI 0)])), (a, .inl (kA 2, 4, .inr (.inr (.inr (.inr (fun _ => none)))))), (od, .inl (kA 5, 1, .inr (.inr (.inr (.inl (fun _ => 0))))))] H := hP
  have hD : va_D A [(h1, .inr (11, [.int (nI 0), .ref q, .int (nI 8), .int (nI 0), .int (nI 0), .int (nI 0), .int (nI 0), .long 0])), (q, .inr (1, [.int (nI 0), .ref z, .int (nI 0)])), (o, .inl (kA 4, 1, .inr (.inl (fun _ => 0)))), (h0, .inr (7, [.ref a, .int (nI 0), .int (nI 8), .int (nI 0), .int (nI 0), .int (nI 0), .int (nI 0)])), (a, .inl (kA 2, 4, .inr (.inr (.inr (.inr (fun _ => none)))))), (od, .inl (kA 5, 1, .inr (.inr (.inr (.inl (fun _ => 0))))))] := hD
  refine lv_istore (lv' := [(6, .int (nI 1)), (5, .int (nI 0)), (4, .ref od), (3, .ref o), (2, .ref h1), (1, .ref h0), (0, .ref b)]) hx hb dL_law_1229 hl (by decide) rfl (fun ls hl => ?_)
  refine lv_aload_n hx hb dL_law_1231 rfl (lv_at hl 4 rfl) ?_
  refine lv_aload_n hx hb dL_law_1232 rfl (lv_at hl 6 rfl) ?_
  refine lv_iload hx hb dL_law_1233 (lv_at hl 1 rfl) ?_
  refine lv_iconst (v := nI 1) hx hb dL_law_1235 (by decide) ?_
  refine lv_iadd hx hb dL_law_1236 ?_
  rw [show nI 0 + nI 1 = nI 1 from by decide]
  refine va_sld hx hb hX hbl hbA hS (vp_in_nI (n := 1) (by decide) (by decide)) dL_law_1237 ?_
  rw [nI_clamp (n := 1) (by decide)]
  refine lv_aload_n hx hb dL_law_1238 rfl (lv_at hl 6 rfl) ?_
  refine lv_iload hx hb dL_law_1239 (lv_at hl 1 rfl) ?_
  refine lv_iconst (v := nI 2) hx hb dL_law_1241 (by decide) ?_
  refine lv_iadd hx hb dL_law_1242 ?_
  rw [show nI 0 + nI 2 = nI 2 from by decide]
  refine va_sld hx hb hX hbl hbA hS (vp_in_nI (n := 2) (by decide) (by decide)) dL_law_1243 ?_
  rw [nI_clamp (n := 2) (by decide)]
  have hF := va_free (wc := [(h1, .inr (11, [.int (nI 0), .ref q, .int (nI 8), .int (nI 0), .int (nI 0), .int (nI 0), .int (nI 0), .long 0])), (q, .inr (1, [.int (nI 0), .ref z, .int (nI 0)]))]) hD hS hA [0, 1] rfl
  refine va_calld (va_runV (As := [.int (xs 1), .int (xs 2)]) (rest := []) ⟨hx, hb, hml, hown, hts⟩ (c_X10_period_e l D kA z h1 q (nI 0) (xs 1) (xs 2)  _) (cwV 2 hts h_law_34 rfl rfl rfl (by decide +kernel) ⟨Nat.le_of_ble_eq_true rfl, Nat.le_of_ble_eq_true rfl⟩) (fPv hK hP hD hS hG hF [0, 1] (by decide) rfl 0 11 rfl rfl rfl) rfl rfl hl.1 rfl (lv_room (Nat.le_of_ble_eq_true rfl)) dL_law_1244 ⟨Nat.le_of_ble_eq_true rfl, Nat.le_of_ble_eq_true rfl⟩) hS (fun q _ h => hF q h) hF (fun r_2 w1 t H locs ht hvm hw hB hz1 hk1 hS => ?_)
  obtain ⟨hP, hD⟩ := fJ (wr := [(o, .inl (kA 4, 1, .inr (.inl (fun _ => 0)))), (h0, .inr (7, [.ref a, .int (nI 0), .int (nI 8), .int (nI 0), .int (nI 0), .int (nI 0), .int (nI 0)])), (a, .inl (kA 2, 4, .inr (.inr (.inr (.inr (fun _ => none)))))), (od, .inl (kA 5, 1, .inr (.inr (.inr (.inl (fun _ => 0))))))]) hP hD [0, 1] [2, 3, 4, 5] rfl rfl (by decide) (by decide) hk1 hF ht hB
  try dsimp only at hw
  subst hw
  have hP : va_P D vwCl [(o, .inl (kA 4, 1, .inr (.inl (fun _ => 0)))), (h0, .inr (7, [.ref a, .int (nI 0), .int (nI 8), .int (nI 0), .int (nI 0), .int (nI 0), .int (nI 0)])), (a, .inl (kA 2, 4, .inr (.inr (.inr (.inr (fun _ => none)))))), (od, .inl (kA 5, 1, .inr (.inr (.inr (.inl (fun _ => 0)))))), (h1, .inr (11, [.int (nI 1), .ref q, .int (nI 8), .int (nI 0), .int (nI 0), .int (nI 0), .int (nI 0), .long 0])), (q, .inr (1, [.int (nI 0), .ref z, .int (nI 0)]))] H := hP
  have hD : va_D A [(o, .inl (kA 4, 1, .inr (.inl (fun _ => 0)))), (h0, .inr (7, [.ref a, .int (nI 0), .int (nI 8), .int (nI 0), .int (nI 0), .int (nI 0), .int (nI 0)])), (a, .inl (kA 2, 4, .inr (.inr (.inr (.inr (fun _ => none)))))), (od, .inl (kA 5, 1, .inr (.inr (.inr (.inl (fun _ => 0)))))), (h1, .inr (11, [.int (nI 1), .ref q, .int (nI 8), .int (nI 0), .int (nI 0), .int (nI 0), .int (nI 0), .long 0])), (q, .inr (1, [.int (nI 0), .ref z, .int (nI 0)]))] := hD
  refine lv_dstore (lv' := [(7, .double r_2), (6, .int (nI 1)), (5, .int (nI 0)), (4, .ref od), (3, .ref o), (2, .ref h1), (1, .ref h0), (0, .ref b)]) hx hb dL_law_1247 hl (by decide) rfl (fun ls hl => ?_)
  refine lv_aload_n hx hb dL_law_1249 rfl (lv_at hl 5 rfl) ?_
  have hF := va_free (wc := [(h1, .inr (11, [.int (nI 1), .ref q, .int (nI 8), .int (nI 0), .int (nI 0), .int (nI 0), .int (nI 0), .long 0]))]) hD hS hA [4] rfl
  refine va_calli (va_runV (As := []) (rest := []) ⟨hx, hb, hml, hown, hts⟩ (c_X10_thrown l D kA z h1 q (nI 1) (nI 8) (nI 0) (nI 0) (nI 0) (nI 0) 0  _) (cwV 0 hts h_law_2 rfl rfl rfl (by decide +kernel) ⟨Nat.le_of_ble_eq_true rfl, Nat.le_of_ble_eq_true rfl⟩) (fPv hK hP hD hS hG hF [4] (by decide) rfl 4 11 rfl rfl rfl) rfl rfl hl.1 rfl (lv_room (Nat.le_of_ble_eq_true rfl)) dL_law_1250 ⟨Nat.le_of_ble_eq_true rfl, Nat.le_of_ble_eq_true rfl⟩) hS (fun q _ h => hF q h) hF (fun r_3 w1 t H locs ht hvm hw hB hz1 hk1 hS => ?_)
  obtain ⟨hP, hD⟩ := fJ (wr := [(o, .inl (kA 4, 1, .inr (.inl (fun _ => 0)))), (h0, .inr (7, [.ref a, .int (nI 0), .int (nI 8), .int (nI 0), .int (nI 0), .int (nI 0), .int (nI 0)])), (a, .inl (kA 2, 4, .inr (.inr (.inr (.inr (fun _ => none)))))), (od, .inl (kA 5, 1, .inr (.inr (.inr (.inl (fun _ => 0)))))), (q, .inr (1, [.int (nI 0), .ref z, .int (nI 0)]))]) hP hD [4] [0, 1, 2, 3, 5] rfl rfl (by decide) (by decide) hk1 hF ht hB
  try dsimp only at hw
  obtain ⟨rfl, e_2⟩ := hw
  replace e_2 := e_2.symm
  subst e_2
  have hP : va_P D vwCl [(o, .inl (kA 4, 1, .inr (.inl (fun _ => 0)))), (h0, .inr (7, [.ref a, .int (nI 0), .int (nI 8), .int (nI 0), .int (nI 0), .int (nI 0), .int (nI 0)])), (a, .inl (kA 2, 4, .inr (.inr (.inr (.inr (fun _ => none)))))), (od, .inl (kA 5, 1, .inr (.inr (.inr (.inl (fun _ => 0)))))), (q, .inr (1, [.int (nI 0), .ref z, .int (nI 0)])), (h1, .inr (11, [.int (nI 1), .ref q, .int (nI 8), .int (nI 0), .int (nI 0), .int (nI 0), .int (nI 0), .long 0]))] H := hP
  have hD : va_D A [(o, .inl (kA 4, 1, .inr (.inl (fun _ => 0)))), (h0, .inr (7, [.ref a, .int (nI 0), .int (nI 8), .int (nI 0), .int (nI 0), .int (nI 0), .int (nI 0)])), (a, .inl (kA 2, 4, .inr (.inr (.inr (.inr (fun _ => none)))))), (od, .inl (kA 5, 1, .inr (.inr (.inr (.inl (fun _ => 0)))))), (q, .inr (1, [.int (nI 0), .ref z, .int (nI 0)])), (h1, .inr (11, [.int (nI 1), .ref q, .int (nI 8), .int (nI 0), .int (nI 0), .int (nI 0), .int (nI 0), .long 0]))] := hD
  refine lv_iload hx hb dL_law_1253 (lv_at hl 1 rfl) ?_
  refine lv_icmp_eq (tgt := 1260) hx hb dL_law_1255 (by decide) (fun _ => ?_) (fun c1255 => absurd (by decide) c1255)
  refine lv_iload hx hb dL_law_1260 (lv_at hl 1 rfl) ?_
  refine lv_if_ne (tgt := 1297) hx hb dL_law_1262 (by decide) (fun _ => ?_) (fun c1262 => absurd c1262 (by decide))
  refine lv_goto (tgt := 1775) hx hb dL_law_1297 (by decide) ?_
  subst hAe
  exact law_tail C0 hS (lv_sub hl [2, 7] rfl) (Nat.le_of_ble_eq_true rfl) (Nat.le_of_ble_eq_true rfl)

set_option maxHeartbeats 16000000 in
set_option maxRecDepth 100000 in
theorem law_case15 {p : Program} {e : Env} {s : State} {m : MethodId} {below : List Frame} {meth : Method} {c : Code} {l : Launch} {b : Nat} {xs : Nat → Int32} (hfl : l.stackTraces = false) (C0 : lw_At p s m meth c b 6 xs) (hts : ∀ w ∈ wq_law, w.before #[Value.ref b] s = true) {D : va_G} {kA : Nat → ClassId} {z : Nat} (hK : va_K D vwCl (tyL kA) s) (hG : gS z (fun q : Nat => s.heap.size ≤ q) s s.heap) {h0 a h1 q o od : Nat} {H : Heap} {locs : List Loc} {ls : Array Slot} (hP : va_P D vwCl [(h0, .inr (7, [.ref a, .int (nI 0), .int (nI 8), .int (nI 0), .int (nI 0), .int (nI 0), .int (nI 0)])), (a, .inl (kA 2, 4, .inr (.inr (.inr (.inr (fun _ => none)))))), (h1, .inr (11, [.int (nI 0), .ref q, .int (nI 8), .int (nI 0), .int (nI 0), .int (nI 0), .int (nI 0), .long 0])), (q, .inr (1, [.int (nI 0), .ref z, .int (nI 0)])), (o, .inl (kA 4, 1, .inr (.inl (fun _ => 0)))), (od, .inl (kA 5, 1, .inr (.inr (.inr (.inl (fun _ => 0))))))] H) (hD : va_D (fun q : Nat => s.heap.size ≤ q) [(h0, .inr (7, [.ref a, .int (nI 0), .int (nI 8), .int (nI 0), .int (nI 0), .int (nI 0), .int (nI 0)])), (a, .inl (kA 2, 4, .inr (.inr (.inr (.inr (fun _ => none)))))), (h1, .inr (11, [.int (nI 0), .ref q, .int (nI 8), .int (nI 0), .int (nI 0), .int (nI 0), .int (nI 0), .long 0])), (q, .inr (1, [.int (nI 0), .ref z, .int (nI 0)])), (o, .inl (kA 4, 1, .inr (.inl (fun _ => 0)))), (od, .inl (kA 5, 1, .inr (.inr (.inr (.inl (fun _ => 0))))))]) (hS : va_S (fun q : Nat => s.heap.size ≤ q) s.heap H locs) (hl : lv_has ls 9 [(5, .int (nI 0)), (4, .ref od), (3, .ref o), (2, .ref h1), (1, .ref h0), (0, .ref b)]) : W p l e room_1 s m #[Value.ref b] below meth c H locs 6 24 (lw_Z below #[Value.ref b] s) (F0 m 1300 ls []) := by
  obtain ⟨hx, hb, hr, hml, hown, hts0, hX, hbl, hlocks, hgv⟩ := id C0
  have hA : ∀ q : Nat, s.heap.size ≤ q → (fun q : Nat => s.heap.size ≤ q) q := fun _ h => h
  have hbA : ¬ (fun q : Nat => s.heap.size ≤ q) b := Nat.not_le.mpr hbl
  generalize hAe : (fun q : Nat => s.heap.size ≤ q) = A at hD hS hA hbA hG
  refine lv_aload_n hx hb dL_law_1300 rfl (lv_at hl 4 rfl) ?_
  refine lv_aload_n hx hb dL_law_1301 rfl (lv_at hl 5 rfl) ?_
  refine lv_iload hx hb dL_law_1302 (lv_at hl 0 rfl) ?_
  refine lv_iconst (v := nI 1) hx hb dL_law_1304 (by decide) ?_
  refine lv_iadd hx hb dL_law_1305 ?_
  rw [show nI 0 + nI 1 = nI 1 from by decide]
  refine va_sld hx hb hX hbl hbA hS (vp_in_nI (n := 1) (by decide) (by decide)) dL_law_1306 ?_
  rw [nI_clamp (n := 1) (by decide)]
  refine lv_aload_n hx hb dL_law_1307 rfl (lv_at hl 5 rfl) ?_
  refine lv_iload hx hb dL_law_1308 (lv_at hl 0 rfl) ?_
  refine lv_iconst (v := nI 2) hx hb dL_law_1310 (by decide) ?_
  refine lv_iadd hx hb dL_law_1311 ?_
  rw [show nI 0 + nI 2 = nI 2 from by decide]
  refine va_sld hx hb hX hbl hbA hS (vp_in_nI (n := 2) (by decide) (by decide)) dL_law_1312 ?_
  rw [nI_clamp (n := 2) (by decide)]
  refine lv_aload_n hx hb dL_law_1313 rfl (lv_at hl 5 rfl) ?_
  refine lv_iload hx hb dL_law_1314 (lv_at hl 0 rfl) ?_
  refine lv_iconst (v := nI 3) hx hb dL_law_1316 (by decide) ?_
  refine lv_iadd hx hb dL_law_1317 ?_
  rw [show nI 0 + nI 3 = nI 3 from by decide]
  refine va_sld hx hb hX hbl hbA hS (vp_in_nI (n := 3) (by decide) (by decide)) dL_law_1318 ?_
  rw [nI_clamp (n := 3) (by decide)]
  refine lv_aload_n hx hb dL_law_1319 rfl (lv_at hl 2 rfl) ?_
  have hF := va_free (wc := [(h0, .inr (7, [.ref a, .int (nI 0), .int (nI 8), .int (nI 0), .int (nI 0), .int (nI 0), .int (nI 0)])), (a, .inl (kA 2, 4, .inr (.inr (.inr (.inr (fun _ => none)))))), (o, .inl (kA 4, 1, .inr (.inl (fun _ => 0))))]) hD hS hA [0, 1, 4] rfl
  refine va_calli (vx_runSW (As := [.ref h0, .int (xs 1), .int (xs 2), .int (xs 3), .ref o]) (rest := []) ⟨hx, hb, hml, hown, hts⟩ (c_L_ofSector_e l D kA z hfl h0 a o (xs 1) (xs 2) (xs 3) (fun _ => 0)  _) (vx_cwSW 5 hts h_law_35 rfl rfl rfl (by decide +kernel) ⟨Nat.le_of_ble_eq_true rfl, Nat.le_of_ble_eq_true rfl⟩) (fPs hK hP hD hS hG hF [0, 1, 4] (by decide) rfl) rfl rfl hl.1 rfl (lv_room (Nat.le_of_ble_eq_true rfl)) dL_law_1320 ⟨Nat.le_of_ble_eq_true rfl, Nat.le_of_ble_eq_true rfl⟩) hS (fun q _ h => hF q h) hF (fun r_1 w1 t H locs ht hvm hw hB hz1 hk1 hS => ?_)
  obtain ⟨hP, hD⟩ := fJ (wr := [(h1, .inr (11, [.int (nI 0), .ref q, .int (nI 8), .int (nI 0), .int (nI 0), .int (nI 0), .int (nI 0), .long 0])), (q, .inr (1, [.int (nI 0), .ref z, .int (nI 0)])), (od, .inl (kA 5, 1, .inr (.inr (.inr (.inl (fun _ => 0))))))]) hP hD [0, 1, 4] [2, 3, 5] rfl rfl (by decide) (by decide) hk1 hF ht hB
  try dsimp only at hw
  obtain ⟨rfl, e_1⟩ := hw
  replace e_1 := e_1.symm
  subst e_1
  have hP : va_P D vwCl [(h1, .inr (11, [.int (nI 0), .ref q, .int (nI 8), .int (nI 0), .int (nI 0), .int (nI 0), .int (nI 0), .long 0])), (q, .inr (1, [.int (nI 0), .ref z, .int (nI 0)])), (od, .inl (kA 5, 1, .inr (.inr (.inr (.inl (fun _ => 0)))))), (h0, .inr (7, [.ref a, .int (nI 0), .int (nI 8), .int (nI 0), .int (nI 0), .int (nI 0), .int (nI 0)])), (a, .inl (kA 2, 4, .inr (.inr (.inr (.inr (fun _ => none)))))), (o, .inl (kA 4, 1, .inr (.inl (fun _ => 0))))] H := hP
  have hD : va_D A [(h1, .inr (11, [.int (nI 0), .ref q, .int (nI 8), .int (nI 0), .int (nI 0), .int (nI 0), .int (nI 0), .long 0])), (q, .inr (1, [.int (nI 0), .ref z, .int (nI 0)])), (od, .inl (kA 5, 1, .inr (.inr (.inr (.inl (fun _ => 0)))))), (h0, .inr (7, [.ref a, .int (nI 0), .int (nI 8), .int (nI 0), .int (nI 0), .int (nI 0), .int (nI 0)])), (a, .inl (kA 2, 4, .inr (.inr (.inr (.inr (fun _ => none)))))), (o, .inl (kA 4, 1, .inr (.inl (fun _ => 0))))] := hD
  refine lv_istore (lv' := [(6, .int (nI 1)), (5, .int (nI 0)), (4, .ref od), (3, .ref o), (2, .ref h1), (1, .ref h0), (0, .ref b)]) hx hb dL_law_1323 hl (by decide) rfl (fun ls hl => ?_)
  refine lv_aload_n hx hb dL_law_1325 rfl (lv_at hl 4 rfl) ?_
  refine lv_aload_n hx hb dL_law_1326 rfl (lv_at hl 6 rfl) ?_
  refine lv_iload hx hb dL_law_1327 (lv_at hl 1 rfl) ?_
  refine lv_iconst (v := nI 1) hx hb dL_law_1329 (by decide) ?_
  refine lv_iadd hx hb dL_law_1330 ?_
  rw [show nI 0 + nI 1 = nI 1 from by decide]
  refine va_sld hx hb hX hbl hbA hS (vp_in_nI (n := 1) (by decide) (by decide)) dL_law_1331 ?_
  rw [nI_clamp (n := 1) (by decide)]
  refine lv_aload_n hx hb dL_law_1332 rfl (lv_at hl 6 rfl) ?_
  refine lv_iload hx hb dL_law_1333 (lv_at hl 1 rfl) ?_
  refine lv_iconst (v := nI 2) hx hb dL_law_1335 (by decide) ?_
  refine lv_iadd hx hb dL_law_1336 ?_
  rw [show nI 0 + nI 2 = nI 2 from by decide]
  refine va_sld hx hb hX hbl hbA hS (vp_in_nI (n := 2) (by decide) (by decide)) dL_law_1337 ?_
  rw [nI_clamp (n := 2) (by decide)]
  refine lv_aload_n hx hb dL_law_1338 rfl (lv_at hl 6 rfl) ?_
  refine lv_iload hx hb dL_law_1339 (lv_at hl 1 rfl) ?_
  refine lv_iconst (v := nI 3) hx hb dL_law_1341 (by decide) ?_
  refine lv_iadd hx hb dL_law_1342 ?_
  rw [show nI 0 + nI 3 = nI 3 from by decide]
  refine va_sld hx hb hX hbl hbA hS (vp_in_nI (n := 3) (by decide) (by decide)) dL_law_1343 ?_
  rw [nI_clamp (n := 3) (by decide)]
  have hF := va_free (wc := [(h1, .inr (11, [.int (nI 0), .ref q, .int (nI 8), .int (nI 0), .int (nI 0), .int (nI 0), .int (nI 0), .long 0])), (q, .inr (1, [.int (nI 0), .ref z, .int (nI 0)]))]) hD hS hA [0, 1] rfl
  refine va_calli (va_runV (As := [.int (xs 1), .int (xs 2), .int (xs 3)]) (rest := []) ⟨hx, hb, hml, hown, hts⟩ (c_X10_ofSector_e l D kA z h1 q (nI 0) (xs 1) (xs 2) (xs 3)  _) (cwV 3 hts h_law_36 rfl rfl rfl (by decide +kernel) ⟨Nat.le_of_ble_eq_true rfl, Nat.le_of_ble_eq_true rfl⟩) (fPv hK hP hD hS hG hF [0, 1] (by decide) rfl 0 11 rfl rfl rfl) rfl rfl hl.1 rfl (lv_room (Nat.le_of_ble_eq_true rfl)) dL_law_1344 ⟨Nat.le_of_ble_eq_true rfl, Nat.le_of_ble_eq_true rfl⟩) hS (fun q _ h => hF q h) hF (fun r_2 w1 t H locs ht hvm hw hB hz1 hk1 hS => ?_)
  obtain ⟨hP, hD⟩ := fJ (wr := [(od, .inl (kA 5, 1, .inr (.inr (.inr (.inl (fun _ => 0)))))), (h0, .inr (7, [.ref a, .int (nI 0), .int (nI 8), .int (nI 0), .int (nI 0), .int (nI 0), .int (nI 0)])), (a, .inl (kA 2, 4, .inr (.inr (.inr (.inr (fun _ => none)))))), (o, .inl (kA 4, 1, .inr (.inl (fun _ => 0))))]) hP hD [0, 1] [2, 3, 4, 5] rfl rfl (by decide) (by decide) hk1 hF ht hB
  try dsimp only at hw
  subst hw
  have hP : va_P D vwCl [(od, .inl (kA 5, 1, .inr (.inr (.inr (.inl (fun _ => 0)))))), (h0, .inr (7, [.ref a, .int (nI 0), .int (nI 8), .int (nI 0), .int (nI 0), .int (nI 0), .int (nI 0)])), (a, .inl (kA 2, 4, .inr (.inr (.inr (.inr (fun _ => none)))))), (o, .inl (kA 4, 1, .inr (.inl (fun _ => 0)))), (h1, .inr (11, [.int (nI 1), .ref q, .int (nI 8), .int (nI 0), .int (nI 0), .int (nI 0), .int (nI 0), .long 0])), (q, .inr (1, [.int (nI 0), .ref z, .int (nI 0)]))] H := hP
  have hD : va_D A [(od, .inl (kA 5, 1, .inr (.inr (.inr (.inl (fun _ => 0)))))), (h0, .inr (7, [.ref a, .int (nI 0), .int (nI 8), .int (nI 0), .int (nI 0), .int (nI 0), .int (nI 0)])), (a, .inl (kA 2, 4, .inr (.inr (.inr (.inr (fun _ => none)))))), (o, .inl (kA 4, 1, .inr (.inl (fun _ => 0)))), (h1, .inr (11, [.int (nI 1), .ref q, .int (nI 8), .int (nI 0), .int (nI 0), .int (nI 0), .int (nI 0), .long 0])), (q, .inr (1, [.int (nI 0), .ref z, .int (nI 0)]))] := hD
  refine lv_istore (lv' := [(7, .int r_2), (6, .int (nI 1)), (5, .int (nI 0)), (4, .ref od), (3, .ref o), (2, .ref h1), (1, .ref h0), (0, .ref b)]) hx hb dL_law_1347 hl (by decide) rfl (fun ls hl => ?_)
  refine lv_aload_n hx hb dL_law_1349 rfl (lv_at hl 5 rfl) ?_
  have hF := va_free (wc := [(h1, .inr (11, [.int (nI 1), .ref q, .int (nI 8), .int (nI 0), .int (nI 0), .int (nI 0), .int (nI 0), .long 0]))]) hD hS hA [4] rfl
  refine va_calli (va_runV (As := []) (rest := []) ⟨hx, hb, hml, hown, hts⟩ (c_X10_thrown l D kA z h1 q (nI 1) (nI 8) (nI 0) (nI 0) (nI 0) (nI 0) 0  _) (cwV 0 hts h_law_2 rfl rfl rfl (by decide +kernel) ⟨Nat.le_of_ble_eq_true rfl, Nat.le_of_ble_eq_true rfl⟩) (fPv hK hP hD hS hG hF [4] (by decide) rfl 4 11 rfl rfl rfl) rfl rfl hl.1 rfl (lv_room (Nat.le_of_ble_eq_true rfl)) dL_law_1350 ⟨Nat.le_of_ble_eq_true rfl, Nat.le_of_ble_eq_true rfl⟩) hS (fun q _ h => hF q h) hF (fun r_3 w1 t H locs ht hvm hw hB hz1 hk1 hS => ?_)
  obtain ⟨hP, hD⟩ := fJ (wr := [(od, .inl (kA 5, 1, .inr (.inr (.inr (.inl (fun _ => 0)))))), (h0, .inr (7, [.ref a, .int (nI 0), .int (nI 8), .int (nI 0), .int (nI 0), .int (nI 0), .int (nI 0)])), (a, .inl (kA 2, 4, .inr (.inr (.inr (.inr (fun _ => none)))))), (o, .inl (kA 4, 1, .inr (.inl (fun _ => 0)))), (q, .inr (1, [.int (nI 0), .ref z, .int (nI 0)]))]) hP hD [4] [0, 1, 2, 3, 5] rfl rfl (by decide) (by decide) hk1 hF ht hB
  try dsimp only at hw
  obtain ⟨rfl, e_2⟩ := hw
  replace e_2 := e_2.symm
  subst e_2
  have hP : va_P D vwCl [(od, .inl (kA 5, 1, .inr (.inr (.inr (.inl (fun _ => 0)))))), (h0, .inr (7, [.ref a, .int (nI 0), .int (nI 8), .int (nI 0), .int (nI 0), .int (nI 0), .int (nI 0)])), (a, .inl (kA 2, 4, .inr (.inr (.inr (.inr (fun _ => none)))))), (o, .inl (kA 4, 1, .inr (.inl (fun _ => 0)))), (q, .inr (1, [.int (nI 0), .ref z, .int (nI 0)])), (h1, .inr (11, [.int (nI 1), .ref q, .int (nI 8), .int (nI 0), .int (nI 0), .int (nI 0), .int (nI 0), .long 0]))] H := hP
  have hD : va_D A [(od, .inl (kA 5, 1, .inr (.inr (.inr (.inl (fun _ => 0)))))), (h0, .inr (7, [.ref a, .int (nI 0), .int (nI 8), .int (nI 0), .int (nI 0), .int (nI 0), .int (nI 0)])), (a, .inl (kA 2, 4, .inr (.inr (.inr (.inr (fun _ => none)))))), (o, .inl (kA 4, 1, .inr (.inl (fun _ => 0)))), (q, .inr (1, [.int (nI 0), .ref z, .int (nI 0)])), (h1, .inr (11, [.int (nI 1), .ref q, .int (nI 8), .int (nI 0), .int (nI 0), .int (nI 0), .int (nI 0), .long 0]))] := hD
  refine lv_iload hx hb dL_law_1353 (lv_at hl 1 rfl) ?_
  refine lv_icmp_eq (tgt := 1360) hx hb dL_law_1355 (by decide) (fun _ => ?_) (fun c1355 => absurd (by decide) c1355)
  refine lv_iload hx hb dL_law_1360 (lv_at hl 1 rfl) ?_
  refine lv_if_ne (tgt := 1377) hx hb dL_law_1362 (by decide) (fun _ => ?_) (fun c1362 => absurd c1362 (by decide))
  refine lv_goto (tgt := 1775) hx hb dL_law_1377 (by decide) ?_
  subst hAe
  exact law_tail C0 hS (lv_sub hl [2, 7] rfl) (Nat.le_of_ble_eq_true rfl) (Nat.le_of_ble_eq_true rfl)

set_option maxHeartbeats 16000000 in
set_option maxRecDepth 100000 in
theorem law_case16 {p : Program} {e : Env} {s : State} {m : MethodId} {below : List Frame} {meth : Method} {c : Code} {l : Launch} {b : Nat} {xs : Nat → Int32} (hfl : l.stackTraces = false) (C0 : lw_At p s m meth c b 6 xs) (hts : ∀ w ∈ wq_law, w.before #[Value.ref b] s = true) {D : va_G} {kA : Nat → ClassId} {z : Nat} (hK : va_K D vwCl (tyL kA) s) (hG : gS z (fun q : Nat => s.heap.size ≤ q) s s.heap) {h0 a h1 q o od : Nat} {H : Heap} {locs : List Loc} {ls : Array Slot} (hP : va_P D vwCl [(h0, .inr (7, [.ref a, .int (nI 0), .int (nI 8), .int (nI 0), .int (nI 0), .int (nI 0), .int (nI 0)])), (a, .inl (kA 2, 4, .inr (.inr (.inr (.inr (fun _ => none)))))), (h1, .inr (11, [.int (nI 0), .ref q, .int (nI 8), .int (nI 0), .int (nI 0), .int (nI 0), .int (nI 0), .long 0])), (q, .inr (1, [.int (nI 0), .ref z, .int (nI 0)])), (o, .inl (kA 4, 1, .inr (.inl (fun _ => 0)))), (od, .inl (kA 5, 1, .inr (.inr (.inr (.inl (fun _ => 0))))))] H) (hD : va_D (fun q : Nat => s.heap.size ≤ q) [(h0, .inr (7, [.ref a, .int (nI 0), .int (nI 8), .int (nI 0), .int (nI 0), .int (nI 0), .int (nI 0)])), (a, .inl (kA 2, 4, .inr (.inr (.inr (.inr (fun _ => none)))))), (h1, .inr (11, [.int (nI 0), .ref q, .int (nI 8), .int (nI 0), .int (nI 0), .int (nI 0), .int (nI 0), .long 0])), (q, .inr (1, [.int (nI 0), .ref z, .int (nI 0)])), (o, .inl (kA 4, 1, .inr (.inl (fun _ => 0)))), (od, .inl (kA 5, 1, .inr (.inr (.inr (.inl (fun _ => 0))))))]) (hS : va_S (fun q : Nat => s.heap.size ≤ q) s.heap H locs) (hl : lv_has ls 9 [(5, .int (nI 0)), (4, .ref od), (3, .ref o), (2, .ref h1), (1, .ref h0), (0, .ref b)]) : W p l e room_1 s m #[Value.ref b] below meth c H locs 6 24 (lw_Z below #[Value.ref b] s) (F0 m 1380 ls []) := by
  obtain ⟨hx, hb, hr, hml, hown, hts0, hX, hbl, hlocks, hgv⟩ := id C0
  have hA : ∀ q : Nat, s.heap.size ≤ q → (fun q : Nat => s.heap.size ≤ q) q := fun _ h => h
  have hbA : ¬ (fun q : Nat => s.heap.size ≤ q) b := Nat.not_le.mpr hbl
  generalize hAe : (fun q : Nat => s.heap.size ≤ q) = A at hD hS hA hbA hG
  refine lv_aload_n hx hb dL_law_1380 rfl (lv_at hl 4 rfl) ?_
  refine lv_aload_n hx hb dL_law_1381 rfl (lv_at hl 5 rfl) ?_
  refine lv_iload hx hb dL_law_1382 (lv_at hl 0 rfl) ?_
  refine lv_iconst (v := nI 1) hx hb dL_law_1384 (by decide) ?_
  refine lv_iadd hx hb dL_law_1385 ?_
  rw [show nI 0 + nI 1 = nI 1 from by decide]
  refine va_sld hx hb hX hbl hbA hS (vp_in_nI (n := 1) (by decide) (by decide)) dL_law_1386 ?_
  rw [nI_clamp (n := 1) (by decide)]
  refine lv_aload_n hx hb dL_law_1387 rfl (lv_at hl 5 rfl) ?_
  refine lv_iload hx hb dL_law_1388 (lv_at hl 0 rfl) ?_
  refine lv_iconst (v := nI 2) hx hb dL_law_1390 (by decide) ?_
  refine lv_iadd hx hb dL_law_1391 ?_
  rw [show nI 0 + nI 2 = nI 2 from by decide]
  refine va_sld hx hb hX hbl hbA hS (vp_in_nI (n := 2) (by decide) (by decide)) dL_law_1392 ?_
  rw [nI_clamp (n := 2) (by decide)]
  refine lv_aload_n hx hb dL_law_1393 rfl (lv_at hl 2 rfl) ?_
  have hF := va_free (wc := [(h0, .inr (7, [.ref a, .int (nI 0), .int (nI 8), .int (nI 0), .int (nI 0), .int (nI 0), .int (nI 0)])), (a, .inl (kA 2, 4, .inr (.inr (.inr (.inr (fun _ => none)))))), (o, .inl (kA 4, 1, .inr (.inl (fun _ => 0))))]) hD hS hA [0, 1, 4] rfl
  refine va_calli (vx_runSW (As := [.ref h0, .int (xs 1), .int (xs 2), .ref o]) (rest := []) ⟨hx, hb, hml, hown, hts⟩ (c_L_chain_e l D kA z hfl h0 a o (xs 1) (xs 2) (fun _ => 0)  _) (vx_cwSW 4 hts h_law_37 rfl rfl rfl (by decide +kernel) ⟨Nat.le_of_ble_eq_true rfl, Nat.le_of_ble_eq_true rfl⟩) (fPs hK hP hD hS hG hF [0, 1, 4] (by decide) rfl) rfl rfl hl.1 rfl (lv_room (Nat.le_of_ble_eq_true rfl)) dL_law_1394 ⟨Nat.le_of_ble_eq_true rfl, Nat.le_of_ble_eq_true rfl⟩) hS (fun q _ h => hF q h) hF (fun r_1 w1 t H locs ht hvm hw hB hz1 hk1 hS => ?_)
  obtain ⟨hP, hD⟩ := fJ (wr := [(h1, .inr (11, [.int (nI 0), .ref q, .int (nI 8), .int (nI 0), .int (nI 0), .int (nI 0), .int (nI 0), .long 0])), (q, .inr (1, [.int (nI 0), .ref z, .int (nI 0)])), (od, .inl (kA 5, 1, .inr (.inr (.inr (.inl (fun _ => 0))))))]) hP hD [0, 1, 4] [2, 3, 5] rfl rfl (by decide) (by decide) hk1 hF ht hB
  try dsimp only at hw
  obtain ⟨rfl, e_1⟩ := hw
  replace e_1 := e_1.symm
  subst e_1
  have hP : va_P D vwCl [(h1, .inr (11, [.int (nI 0), .ref q, .int (nI 8), .int (nI 0), .int (nI 0), .int (nI 0), .int (nI 0), .long 0])), (q, .inr (1, [.int (nI 0), .ref z, .int (nI 0)])), (od, .inl (kA 5, 1, .inr (.inr (.inr (.inl (fun _ => 0)))))), (h0, .inr (7, [.ref a, .int (nI 0), .int (nI 8), .int (nI 0), .int (nI 0), .int (nI 0), .int (nI 0)])), (a, .inl (kA 2, 4, .inr (.inr (.inr (.inr (fun _ => none)))))), (o, .inl (kA 4, 1, .inr (.inl (fun _ => 0))))] H := hP
  have hD : va_D A [(h1, .inr (11, [.int (nI 0), .ref q, .int (nI 8), .int (nI 0), .int (nI 0), .int (nI 0), .int (nI 0), .long 0])), (q, .inr (1, [.int (nI 0), .ref z, .int (nI 0)])), (od, .inl (kA 5, 1, .inr (.inr (.inr (.inl (fun _ => 0)))))), (h0, .inr (7, [.ref a, .int (nI 0), .int (nI 8), .int (nI 0), .int (nI 0), .int (nI 0), .int (nI 0)])), (a, .inl (kA 2, 4, .inr (.inr (.inr (.inr (fun _ => none)))))), (o, .inl (kA 4, 1, .inr (.inl (fun _ => 0))))] := hD
  refine lv_istore (lv' := [(6, .int (nI 1)), (5, .int (nI 0)), (4, .ref od), (3, .ref o), (2, .ref h1), (1, .ref h0), (0, .ref b)]) hx hb dL_law_1397 hl (by decide) rfl (fun ls hl => ?_)
  refine lv_aload_n hx hb dL_law_1399 rfl (lv_at hl 4 rfl) ?_
  refine lv_aload_n hx hb dL_law_1400 rfl (lv_at hl 6 rfl) ?_
  refine lv_iload hx hb dL_law_1401 (lv_at hl 1 rfl) ?_
  refine lv_iconst (v := nI 1) hx hb dL_law_1403 (by decide) ?_
  refine lv_iadd hx hb dL_law_1404 ?_
  rw [show nI 0 + nI 1 = nI 1 from by decide]
  refine va_sld hx hb hX hbl hbA hS (vp_in_nI (n := 1) (by decide) (by decide)) dL_law_1405 ?_
  rw [nI_clamp (n := 1) (by decide)]
  refine lv_aload_n hx hb dL_law_1406 rfl (lv_at hl 6 rfl) ?_
  refine lv_iload hx hb dL_law_1407 (lv_at hl 1 rfl) ?_
  refine lv_iconst (v := nI 2) hx hb dL_law_1409 (by decide) ?_
  refine lv_iadd hx hb dL_law_1410 ?_
  rw [show nI 0 + nI 2 = nI 2 from by decide]
  refine va_sld hx hb hX hbl hbA hS (vp_in_nI (n := 2) (by decide) (by decide)) dL_law_1411 ?_
  rw [nI_clamp (n := 2) (by decide)]
  have hF := va_free (wc := [(h1, .inr (11, [.int (nI 0), .ref q, .int (nI 8), .int (nI 0), .int (nI 0), .int (nI 0), .int (nI 0), .long 0])), (q, .inr (1, [.int (nI 0), .ref z, .int (nI 0)]))]) hD hS hA [0, 1] rfl
  refine va_calli (va_runV (As := [.int (xs 1), .int (xs 2)]) (rest := []) ⟨hx, hb, hml, hown, hts⟩ (c_X10_chain_e l D kA z h1 q (nI 0) (xs 1) (xs 2)  _) (cwV 2 hts h_law_38 rfl rfl rfl (by decide +kernel) ⟨Nat.le_of_ble_eq_true rfl, Nat.le_of_ble_eq_true rfl⟩) (fPv hK hP hD hS hG hF [0, 1] (by decide) rfl 0 11 rfl rfl rfl) rfl rfl hl.1 rfl (lv_room (Nat.le_of_ble_eq_true rfl)) dL_law_1412 ⟨Nat.le_of_ble_eq_true rfl, Nat.le_of_ble_eq_true rfl⟩) hS (fun q _ h => hF q h) hF (fun r_2 w1 t H locs ht hvm hw hB hz1 hk1 hS => ?_)
  obtain ⟨hP, hD⟩ := fJ (wr := [(od, .inl (kA 5, 1, .inr (.inr (.inr (.inl (fun _ => 0)))))), (h0, .inr (7, [.ref a, .int (nI 0), .int (nI 8), .int (nI 0), .int (nI 0), .int (nI 0), .int (nI 0)])), (a, .inl (kA 2, 4, .inr (.inr (.inr (.inr (fun _ => none)))))), (o, .inl (kA 4, 1, .inr (.inl (fun _ => 0))))]) hP hD [0, 1] [2, 3, 4, 5] rfl rfl (by decide) (by decide) hk1 hF ht hB
  try dsimp only at hw
  subst hw
  have hP : va_P D vwCl [(od, .inl (kA 5, 1, .inr (.inr (.inr (.inl (fun _ => 0)))))), (h0, .inr (7, [.ref a, .int (nI 0), .int (nI 8), .int (nI 0), .int (nI 0), .int (nI 0), .int (nI 0)])), (a, .inl (kA 2, 4, .inr (.inr (.inr (.inr (fun _ => none)))))), (o, .inl (kA 4, 1, .inr (.inl (fun _ => 0)))), (h1, .inr (11, [.int (nI 1), .ref q, .int (nI 8), .int (nI 0), .int (nI 0), .int (nI 0), .int (nI 0), .long 0])), (q, .inr (1, [.int (nI 0), .ref z, .int (nI 0)]))] H := hP
  have hD : va_D A [(od, .inl (kA 5, 1, .inr (.inr (.inr (.inl (fun _ => 0)))))), (h0, .inr (7, [.ref a, .int (nI 0), .int (nI 8), .int (nI 0), .int (nI 0), .int (nI 0), .int (nI 0)])), (a, .inl (kA 2, 4, .inr (.inr (.inr (.inr (fun _ => none)))))), (o, .inl (kA 4, 1, .inr (.inl (fun _ => 0)))), (h1, .inr (11, [.int (nI 1), .ref q, .int (nI 8), .int (nI 0), .int (nI 0), .int (nI 0), .int (nI 0), .long 0])), (q, .inr (1, [.int (nI 0), .ref z, .int (nI 0)]))] := hD
  refine lv_istore (lv' := [(7, .int r_2), (6, .int (nI 1)), (5, .int (nI 0)), (4, .ref od), (3, .ref o), (2, .ref h1), (1, .ref h0), (0, .ref b)]) hx hb dL_law_1415 hl (by decide) rfl (fun ls hl => ?_)
  refine lv_aload_n hx hb dL_law_1417 rfl (lv_at hl 5 rfl) ?_
  have hF := va_free (wc := [(h1, .inr (11, [.int (nI 1), .ref q, .int (nI 8), .int (nI 0), .int (nI 0), .int (nI 0), .int (nI 0), .long 0]))]) hD hS hA [4] rfl
  refine va_calli (va_runV (As := []) (rest := []) ⟨hx, hb, hml, hown, hts⟩ (c_X10_thrown l D kA z h1 q (nI 1) (nI 8) (nI 0) (nI 0) (nI 0) (nI 0) 0  _) (cwV 0 hts h_law_2 rfl rfl rfl (by decide +kernel) ⟨Nat.le_of_ble_eq_true rfl, Nat.le_of_ble_eq_true rfl⟩) (fPv hK hP hD hS hG hF [4] (by decide) rfl 4 11 rfl rfl rfl) rfl rfl hl.1 rfl (lv_room (Nat.le_of_ble_eq_true rfl)) dL_law_1418 ⟨Nat.le_of_ble_eq_true rfl, Nat.le_of_ble_eq_true rfl⟩) hS (fun q _ h => hF q h) hF (fun r_3 w1 t H locs ht hvm hw hB hz1 hk1 hS => ?_)
  obtain ⟨hP, hD⟩ := fJ (wr := [(od, .inl (kA 5, 1, .inr (.inr (.inr (.inl (fun _ => 0)))))), (h0, .inr (7, [.ref a, .int (nI 0), .int (nI 8), .int (nI 0), .int (nI 0), .int (nI 0), .int (nI 0)])), (a, .inl (kA 2, 4, .inr (.inr (.inr (.inr (fun _ => none)))))), (o, .inl (kA 4, 1, .inr (.inl (fun _ => 0)))), (q, .inr (1, [.int (nI 0), .ref z, .int (nI 0)]))]) hP hD [4] [0, 1, 2, 3, 5] rfl rfl (by decide) (by decide) hk1 hF ht hB
  try dsimp only at hw
  obtain ⟨rfl, e_2⟩ := hw
  replace e_2 := e_2.symm
  subst e_2
  have hP : va_P D vwCl [(od, .inl (kA 5, 1, .inr (.inr (.inr (.inl (fun _ => 0)))))), (h0, .inr (7, [.ref a, .int (nI 0), .int (nI 8), .int (nI 0), .int (nI 0), .int (nI 0), .int (nI 0)])), (a, .inl (kA 2, 4, .inr (.inr (.inr (.inr (fun _ => none)))))), (o, .inl (kA 4, 1, .inr (.inl (fun _ => 0)))), (q, .inr (1, [.int (nI 0), .ref z, .int (nI 0)])), (h1, .inr (11, [.int (nI 1), .ref q, .int (nI 8), .int (nI 0), .int (nI 0), .int (nI 0), .int (nI 0), .long 0]))] H := hP
  have hD : va_D A [(od, .inl (kA 5, 1, .inr (.inr (.inr (.inl (fun _ => 0)))))), (h0, .inr (7, [.ref a, .int (nI 0), .int (nI 8), .int (nI 0), .int (nI 0), .int (nI 0), .int (nI 0)])), (a, .inl (kA 2, 4, .inr (.inr (.inr (.inr (fun _ => none)))))), (o, .inl (kA 4, 1, .inr (.inl (fun _ => 0)))), (q, .inr (1, [.int (nI 0), .ref z, .int (nI 0)])), (h1, .inr (11, [.int (nI 1), .ref q, .int (nI 8), .int (nI 0), .int (nI 0), .int (nI 0), .int (nI 0), .long 0]))] := hD
  refine lv_iload hx hb dL_law_1421 (lv_at hl 1 rfl) ?_
  refine lv_icmp_eq (tgt := 1428) hx hb dL_law_1423 (by decide) (fun _ => ?_) (fun c1423 => absurd (by decide) c1423)
  refine lv_iload hx hb dL_law_1428 (lv_at hl 1 rfl) ?_
  refine lv_if_ne (tgt := 1445) hx hb dL_law_1430 (by decide) (fun _ => ?_) (fun c1430 => absurd c1430 (by decide))
  refine lv_goto (tgt := 1775) hx hb dL_law_1445 (by decide) ?_
  subst hAe
  exact law_tail C0 hS (lv_sub hl [2, 7] rfl) (Nat.le_of_ble_eq_true rfl) (Nat.le_of_ble_eq_true rfl)

set_option maxHeartbeats 16000000 in
set_option maxRecDepth 100000 in
theorem law_case17 {p : Program} {e : Env} {s : State} {m : MethodId} {below : List Frame} {meth : Method} {c : Code} {l : Launch} {b : Nat} {xs : Nat → Int32} (hfl : l.stackTraces = false) (C0 : lw_At p s m meth c b 6 xs) (hts : ∀ w ∈ wq_law, w.before #[Value.ref b] s = true) {D : va_G} {kA : Nat → ClassId} {z : Nat} (hK : va_K D vwCl (tyL kA) s) (hG : gS z (fun q : Nat => s.heap.size ≤ q) s s.heap) {h0 a h1 q o od : Nat} {H : Heap} {locs : List Loc} {ls : Array Slot} (hP : va_P D vwCl [(h0, .inr (7, [.ref a, .int (nI 0), .int (nI 8), .int (nI 0), .int (nI 0), .int (nI 0), .int (nI 0)])), (a, .inl (kA 2, 4, .inr (.inr (.inr (.inr (fun _ => none)))))), (h1, .inr (11, [.int (nI 0), .ref q, .int (nI 8), .int (nI 0), .int (nI 0), .int (nI 0), .int (nI 0), .long 0])), (q, .inr (1, [.int (nI 0), .ref z, .int (nI 0)])), (o, .inl (kA 4, 1, .inr (.inl (fun _ => 0)))), (od, .inl (kA 5, 1, .inr (.inr (.inr (.inl (fun _ => 0))))))] H) (hD : va_D (fun q : Nat => s.heap.size ≤ q) [(h0, .inr (7, [.ref a, .int (nI 0), .int (nI 8), .int (nI 0), .int (nI 0), .int (nI 0), .int (nI 0)])), (a, .inl (kA 2, 4, .inr (.inr (.inr (.inr (fun _ => none)))))), (h1, .inr (11, [.int (nI 0), .ref q, .int (nI 8), .int (nI 0), .int (nI 0), .int (nI 0), .int (nI 0), .long 0])), (q, .inr (1, [.int (nI 0), .ref z, .int (nI 0)])), (o, .inl (kA 4, 1, .inr (.inl (fun _ => 0)))), (od, .inl (kA 5, 1, .inr (.inr (.inr (.inl (fun _ => 0))))))]) (hS : va_S (fun q : Nat => s.heap.size ≤ q) s.heap H locs) (hl : lv_has ls 9 [(5, .int (nI 0)), (4, .ref od), (3, .ref o), (2, .ref h1), (1, .ref h0), (0, .ref b)]) : W p l e room_1 s m #[Value.ref b] below meth c H locs 6 24 (lw_Z below #[Value.ref b] s) (F0 m 1448 ls []) := by
  obtain ⟨hx, hb, hr, hml, hown, hts0, hX, hbl, hlocks, hgv⟩ := id C0
  have hA : ∀ q : Nat, s.heap.size ≤ q → (fun q : Nat => s.heap.size ≤ q) q := fun _ h => h
  have hbA : ¬ (fun q : Nat => s.heap.size ≤ q) b := Nat.not_le.mpr hbl
  generalize hAe : (fun q : Nat => s.heap.size ≤ q) = A at hD hS hA hbA hG
  by_cases hv : ∃ n : Nat, n ≤ 6 ∧ xs 1 = nI n
  ·
    obtain ⟨n9, hn9, e9⟩ := hv
    refine lv_aload_n hx hb dL_law_1448 rfl (lv_at hl 4 rfl) ?_
    refine lv_aload_n hx hb dL_law_1449 rfl (lv_at hl 5 rfl) ?_
    refine lv_iload hx hb dL_law_1450 (lv_at hl 0 rfl) ?_
    refine lv_iconst (v := nI 1) hx hb dL_law_1452 (by decide) ?_
    refine lv_iadd hx hb dL_law_1453 ?_
    rw [show nI 0 + nI 1 = nI 1 from by decide]
    refine va_sld hx hb hX hbl hbA hS (vp_in_nI (n := 1) (by decide) (by decide)) dL_law_1454 ?_
    rw [nI_clamp (n := 1) (by decide)]
    rw [e9]
    refine lv_aload_n hx hb dL_law_1455 rfl (lv_at hl 2 rfl) ?_
    have hF := va_free (wc := [(h0, .inr (7, [.ref a, .int (nI 0), .int (nI 8), .int (nI 0), .int (nI 0), .int (nI 0), .int (nI 0)])), (a, .inl (kA 2, 4, .inr (.inr (.inr (.inr (fun _ => none)))))), (o, .inl (kA 4, 1, .inr (.inl (fun _ => 0))))]) hD hS hA [0, 1, 4] rfl
    refine va_calli (vx_runSW (As := [.ref h0, .int (nI n9), .ref o]) (rest := []) ⟨hx, hb, hml, hown, hts⟩ (c_L_many_ok l D kA z hfl h0 a o n9 (fun _ => 0) (by omega) _) (vx_cwSW 3 hts h_law_39 rfl rfl rfl (by decide +kernel) ⟨Nat.le_of_ble_eq_true rfl, Nat.le_of_ble_eq_true rfl⟩) (fPs hK hP hD hS hG hF [0, 1, 4] (by decide) rfl) rfl rfl hl.1 rfl (lv_room (Nat.le_of_ble_eq_true rfl)) dL_law_1456 ⟨Nat.le_of_ble_eq_true rfl, Nat.le_of_ble_eq_true rfl⟩) hS (fun q _ h => hF q h) hF (fun r_1 w1 t H locs ht hvm hw hB hz1 hk1 hS => ?_)
    obtain ⟨hP, hD⟩ := fJ (wr := [(h1, .inr (11, [.int (nI 0), .ref q, .int (nI 8), .int (nI 0), .int (nI 0), .int (nI 0), .int (nI 0), .long 0])), (q, .inr (1, [.int (nI 0), .ref z, .int (nI 0)])), (od, .inl (kA 5, 1, .inr (.inr (.inr (.inl (fun _ => 0))))))]) hP hD [0, 1, 4] [2, 3, 5] rfl rfl (by decide) (by decide) hk1 hF ht hB
    try dsimp only at hw
    obtain ⟨rfl, e_1⟩ := hw
    replace e_1 := e_1.symm
    subst e_1
    have hP : va_P D vwCl [(h1, .inr (11, [.int (nI 0), .ref q, .int (nI 8), .int (nI 0), .int (nI 0), .int (nI 0), .int (nI 0), .long 0])), (q, .inr (1, [.int (nI 0), .ref z, .int (nI 0)])), (od, .inl (kA 5, 1, .inr (.inr (.inr (.inl (fun _ => 0)))))), (h0, .inr (7, [.ref a, .int (nI 0), .int (nI 8), .int (nI 0), .int (nI 0), .int (nI 0), .int (nI 0)])), (a, .inl (kA 2, 4, .inr (.inr (.inr (.inr (fun _ => none)))))), (o, .inl (kA 4, 1, .inr (.inl (vp_updL (fun _ => 0) 0 (nI ([0, 8, 0, 0, 0, 0, 0].getD n9 0)).toInt64))))] H := hP
    have hD : va_D A [(h1, .inr (11, [.int (nI 0), .ref q, .int (nI 8), .int (nI 0), .int (nI 0), .int (nI 0), .int (nI 0), .long 0])), (q, .inr (1, [.int (nI 0), .ref z, .int (nI 0)])), (od, .inl (kA 5, 1, .inr (.inr (.inr (.inl (fun _ => 0)))))), (h0, .inr (7, [.ref a, .int (nI 0), .int (nI 8), .int (nI 0), .int (nI 0), .int (nI 0), .int (nI 0)])), (a, .inl (kA 2, 4, .inr (.inr (.inr (.inr (fun _ => none)))))), (o, .inl (kA 4, 1, .inr (.inl (vp_updL (fun _ => 0) 0 (nI ([0, 8, 0, 0, 0, 0, 0].getD n9 0)).toInt64))))] := hD
    refine lv_istore (lv' := [(6, .int (nI 0)), (5, .int (nI 0)), (4, .ref od), (3, .ref o), (2, .ref h1), (1, .ref h0), (0, .ref b)]) hx hb dL_law_1459 hl (by decide) rfl (fun ls hl => ?_)
    refine lv_aload_n hx hb dL_law_1461 rfl (lv_at hl 4 rfl) ?_
    refine lv_aload_n hx hb dL_law_1462 rfl (lv_at hl 6 rfl) ?_
    refine lv_iload hx hb dL_law_1463 (lv_at hl 1 rfl) ?_
    refine lv_iconst (v := nI 1) hx hb dL_law_1465 (by decide) ?_
    refine lv_iadd hx hb dL_law_1466 ?_
    rw [show nI 0 + nI 1 = nI 1 from by decide]
    refine va_sld hx hb hX hbl hbA hS (vp_in_nI (n := 1) (by decide) (by decide)) dL_law_1467 ?_
    rw [nI_clamp (n := 1) (by decide)]
    rw [e9]
    have hF := va_free (wc := [(h1, .inr (11, [.int (nI 0), .ref q, .int (nI 8), .int (nI 0), .int (nI 0), .int (nI 0), .int (nI 0), .long 0])), (q, .inr (1, [.int (nI 0), .ref z, .int (nI 0)]))]) hD hS hA [0, 1] rfl
    refine va_calli (va_runV (As := [.int (nI n9)]) (rest := []) ⟨hx, hb, hml, hown, hts⟩ (c_X10_many_ok l D kA z h1 q n9 (nI 0) (by omega) _) (cwV 1 hts h_law_40 rfl rfl rfl (by decide +kernel) ⟨Nat.le_of_ble_eq_true rfl, Nat.le_of_ble_eq_true rfl⟩) (fPv hK hP hD hS hG hF [0, 1] (by decide) rfl 0 11 rfl rfl rfl) rfl rfl hl.1 rfl (lv_room (Nat.le_of_ble_eq_true rfl)) dL_law_1468 ⟨Nat.le_of_ble_eq_true rfl, Nat.le_of_ble_eq_true rfl⟩) hS (fun q _ h => hF q h) hF (fun r_2 w1 t H locs ht hvm hw hB hz1 hk1 hS => ?_)
    obtain ⟨hP, hD⟩ := fJ (wr := [(od, .inl (kA 5, 1, .inr (.inr (.inr (.inl (fun _ => 0)))))), (h0, .inr (7, [.ref a, .int (nI 0), .int (nI 8), .int (nI 0), .int (nI 0), .int (nI 0), .int (nI 0)])), (a, .inl (kA 2, 4, .inr (.inr (.inr (.inr (fun _ => none)))))), (o, .inl (kA 4, 1, .inr (.inl (vp_updL (fun _ => 0) 0 (nI ([0, 8, 0, 0, 0, 0, 0].getD n9 0)).toInt64))))]) hP hD [0, 1] [2, 3, 4, 5] rfl rfl (by decide) (by decide) hk1 hF ht hB
    try dsimp only at hw
    obtain ⟨rfl, e_2⟩ := hw
    replace e_2 := e_2.symm
    subst e_2
    have hP : va_P D vwCl [(od, .inl (kA 5, 1, .inr (.inr (.inr (.inl (fun _ => 0)))))), (h0, .inr (7, [.ref a, .int (nI 0), .int (nI 8), .int (nI 0), .int (nI 0), .int (nI 0), .int (nI 0)])), (a, .inl (kA 2, 4, .inr (.inr (.inr (.inr (fun _ => none)))))), (o, .inl (kA 4, 1, .inr (.inl (vp_updL (fun _ => 0) 0 (nI ([0, 8, 0, 0, 0, 0, 0].getD n9 0)).toInt64)))), (h1, .inr (11, [.int (nI 0), .ref q, .int (nI 8), .int (nI 0), .int (nI 0), .int (nI 0), .int (nI 0), .long 0])), (q, .inr (1, [.int (nI 0), .ref z, .int (nI 0)]))] H := hP
    have hD : va_D A [(od, .inl (kA 5, 1, .inr (.inr (.inr (.inl (fun _ => 0)))))), (h0, .inr (7, [.ref a, .int (nI 0), .int (nI 8), .int (nI 0), .int (nI 0), .int (nI 0), .int (nI 0)])), (a, .inl (kA 2, 4, .inr (.inr (.inr (.inr (fun _ => none)))))), (o, .inl (kA 4, 1, .inr (.inl (vp_updL (fun _ => 0) 0 (nI ([0, 8, 0, 0, 0, 0, 0].getD n9 0)).toInt64)))), (h1, .inr (11, [.int (nI 0), .ref q, .int (nI 8), .int (nI 0), .int (nI 0), .int (nI 0), .int (nI 0), .long 0])), (q, .inr (1, [.int (nI 0), .ref z, .int (nI 0)]))] := hD
    refine lv_istore (lv' := [(7, .int (nI ([0, 8, 0, 0, 0, 0, 0].getD n9 0))), (6, .int (nI 0)), (5, .int (nI 0)), (4, .ref od), (3, .ref o), (2, .ref h1), (1, .ref h0), (0, .ref b)]) hx hb dL_law_1471 hl (by decide) rfl (fun ls hl => ?_)
    refine lv_aload_n hx hb dL_law_1473 rfl (lv_at hl 5 rfl) ?_
    have hF := va_free (wc := [(h1, .inr (11, [.int (nI 0), .ref q, .int (nI 8), .int (nI 0), .int (nI 0), .int (nI 0), .int (nI 0), .long 0]))]) hD hS hA [4] rfl
    refine va_calli (va_runV (As := []) (rest := []) ⟨hx, hb, hml, hown, hts⟩ (c_X10_thrown l D kA z h1 q (nI 0) (nI 8) (nI 0) (nI 0) (nI 0) (nI 0) 0  _) (cwV 0 hts h_law_2 rfl rfl rfl (by decide +kernel) ⟨Nat.le_of_ble_eq_true rfl, Nat.le_of_ble_eq_true rfl⟩) (fPv hK hP hD hS hG hF [4] (by decide) rfl 4 11 rfl rfl rfl) rfl rfl hl.1 rfl (lv_room (Nat.le_of_ble_eq_true rfl)) dL_law_1474 ⟨Nat.le_of_ble_eq_true rfl, Nat.le_of_ble_eq_true rfl⟩) hS (fun q _ h => hF q h) hF (fun r_3 w1 t H locs ht hvm hw hB hz1 hk1 hS => ?_)
    obtain ⟨hP, hD⟩ := fJ (wr := [(od, .inl (kA 5, 1, .inr (.inr (.inr (.inl (fun _ => 0)))))), (h0, .inr (7, [.ref a, .int (nI 0), .int (nI 8), .int (nI 0), .int (nI 0), .int (nI 0), .int (nI 0)])), (a, .inl (kA 2, 4, .inr (.inr (.inr (.inr (fun _ => none)))))), (o, .inl (kA 4, 1, .inr (.inl (vp_updL (fun _ => 0) 0 (nI ([0, 8, 0, 0, 0, 0, 0].getD n9 0)).toInt64)))), (q, .inr (1, [.int (nI 0), .ref z, .int (nI 0)]))]) hP hD [4] [0, 1, 2, 3, 5] rfl rfl (by decide) (by decide) hk1 hF ht hB
    try dsimp only at hw
    obtain ⟨rfl, e_3⟩ := hw
    replace e_3 := e_3.symm
    subst e_3
    have hP : va_P D vwCl [(od, .inl (kA 5, 1, .inr (.inr (.inr (.inl (fun _ => 0)))))), (h0, .inr (7, [.ref a, .int (nI 0), .int (nI 8), .int (nI 0), .int (nI 0), .int (nI 0), .int (nI 0)])), (a, .inl (kA 2, 4, .inr (.inr (.inr (.inr (fun _ => none)))))), (o, .inl (kA 4, 1, .inr (.inl (vp_updL (fun _ => 0) 0 (nI ([0, 8, 0, 0, 0, 0, 0].getD n9 0)).toInt64)))), (q, .inr (1, [.int (nI 0), .ref z, .int (nI 0)])), (h1, .inr (11, [.int (nI 0), .ref q, .int (nI 8), .int (nI 0), .int (nI 0), .int (nI 0), .int (nI 0), .long 0]))] H := hP
    have hD : va_D A [(od, .inl (kA 5, 1, .inr (.inr (.inr (.inl (fun _ => 0)))))), (h0, .inr (7, [.ref a, .int (nI 0), .int (nI 8), .int (nI 0), .int (nI 0), .int (nI 0), .int (nI 0)])), (a, .inl (kA 2, 4, .inr (.inr (.inr (.inr (fun _ => none)))))), (o, .inl (kA 4, 1, .inr (.inl (vp_updL (fun _ => 0) 0 (nI ([0, 8, 0, 0, 0, 0, 0].getD n9 0)).toInt64)))), (q, .inr (1, [.int (nI 0), .ref z, .int (nI 0)])), (h1, .inr (11, [.int (nI 0), .ref q, .int (nI 8), .int (nI 0), .int (nI 0), .int (nI 0), .int (nI 0), .long 0]))] := hD
    refine lv_iload hx hb dL_law_1477 (lv_at hl 1 rfl) ?_
    refine lv_icmp_eq (tgt := 1484) hx hb dL_law_1479 (by decide) (fun _ => ?_) (fun c1479 => absurd (by decide) c1479)
    refine lv_iload hx hb dL_law_1484 (lv_at hl 1 rfl) ?_
    refine lv_if_ne (tgt := 1501) hx hb dL_law_1486 (by decide) (fun c1486 => absurd (by decide) c1486) (fun _ => ?_)
    refine lv_aload_n hx hb dL_law_1489 rfl (lv_at hl 4 rfl) ?_
    refine lv_iconst (v := nI 0) hx hb dL_law_1490 (by decide) ?_
    refine va_lald hx hb hK hP 3 4 rfl rfl (vp_in_nI (n := 0) (by omega) (by decide)) dL_law_1491 ?_
    rw [nI_clamp (n := 0) (by omega)]
    refine lv_iload hx hb dL_law_1492 (lv_at hl 0 rfl) ?_
    refine lv_i2l (v := (nI ([0, 8, 0, 0, 0, 0, 0].getD n9 0)).toInt64) hx hb dL_law_1494 rfl ?_
    refine W.lcmp hx hb dL_law_1495 ?_
    refine lv_if_eq (tgt := 1501) hx hb dL_law_1496 (by decide) (fun _ => ?_) (fun c1496 => absurd (lgs _) c1496)
    refine lv_goto (tgt := 1775) hx hb dL_law_1501 (by decide) ?_
    subst hAe
    exact law_tail C0 hS (lv_sub hl [2, 7] rfl) (Nat.le_of_ble_eq_true rfl) (Nat.le_of_ble_eq_true rfl)
  ·
    have hv9 : ∀ n : Nat, n ≤ 6 → xs 1 ≠ nI n := fun n g2 g3 => hv ⟨n, g2, g3⟩
    refine lv_aload_n hx hb dL_law_1448 rfl (lv_at hl 4 rfl) ?_
    refine lv_aload_n hx hb dL_law_1449 rfl (lv_at hl 5 rfl) ?_
    refine lv_iload hx hb dL_law_1450 (lv_at hl 0 rfl) ?_
    refine lv_iconst (v := nI 1) hx hb dL_law_1452 (by decide) ?_
    refine lv_iadd hx hb dL_law_1453 ?_
    rw [show nI 0 + nI 1 = nI 1 from by decide]
    refine va_sld hx hb hX hbl hbA hS (vp_in_nI (n := 1) (by decide) (by decide)) dL_law_1454 ?_
    rw [nI_clamp (n := 1) (by decide)]
    refine lv_aload_n hx hb dL_law_1455 rfl (lv_at hl 2 rfl) ?_
    have hF := va_free (wc := [(h0, .inr (7, [.ref a, .int (nI 0), .int (nI 8), .int (nI 0), .int (nI 0), .int (nI 0), .int (nI 0)])), (a, .inl (kA 2, 4, .inr (.inr (.inr (.inr (fun _ => none)))))), (o, .inl (kA 4, 1, .inr (.inl (fun _ => 0))))]) hD hS hA [0, 1, 4] rfl
    refine va_calli (vx_runSW (As := [.ref h0, .int (xs 1), .ref o]) (rest := []) ⟨hx, hb, hml, hown, hts⟩ (c_L_many_no l D kA z hfl h0 a o (xs 1) (fun _ => 0) hv9 _) (vx_cwSW 3 hts h_law_41 rfl rfl rfl (by decide +kernel) ⟨Nat.le_of_ble_eq_true rfl, Nat.le_of_ble_eq_true rfl⟩) (fPs hK hP hD hS hG hF [0, 1, 4] (by decide) rfl) rfl rfl hl.1 rfl (lv_room (Nat.le_of_ble_eq_true rfl)) dL_law_1456 ⟨Nat.le_of_ble_eq_true rfl, Nat.le_of_ble_eq_true rfl⟩) hS (fun q _ h => hF q h) hF (fun r_4 w1 t H locs ht hvm hw hB hz1 hk1 hS => ?_)
    obtain ⟨hP, hD⟩ := fJ (wr := [(h1, .inr (11, [.int (nI 0), .ref q, .int (nI 8), .int (nI 0), .int (nI 0), .int (nI 0), .int (nI 0), .long 0])), (q, .inr (1, [.int (nI 0), .ref z, .int (nI 0)])), (od, .inl (kA 5, 1, .inr (.inr (.inr (.inl (fun _ => 0))))))]) hP hD [0, 1, 4] [2, 3, 5] rfl rfl (by decide) (by decide) hk1 hF ht hB
    try dsimp only at hw
    obtain ⟨rfl, e_4⟩ := hw
    replace e_4 := e_4.symm
    subst e_4
    have hP : va_P D vwCl [(h1, .inr (11, [.int (nI 0), .ref q, .int (nI 8), .int (nI 0), .int (nI 0), .int (nI 0), .int (nI 0), .long 0])), (q, .inr (1, [.int (nI 0), .ref z, .int (nI 0)])), (od, .inl (kA 5, 1, .inr (.inr (.inr (.inl (fun _ => 0)))))), (h0, .inr (7, [.ref a, .int (nI 0), .int (nI 8), .int (nI 0), .int (nI 0), .int (nI 0), .int (nI 0)])), (a, .inl (kA 2, 4, .inr (.inr (.inr (.inr (fun _ => none)))))), (o, .inl (kA 4, 1, .inr (.inl (fun _ => 0))))] H := hP
    have hD : va_D A [(h1, .inr (11, [.int (nI 0), .ref q, .int (nI 8), .int (nI 0), .int (nI 0), .int (nI 0), .int (nI 0), .long 0])), (q, .inr (1, [.int (nI 0), .ref z, .int (nI 0)])), (od, .inl (kA 5, 1, .inr (.inr (.inr (.inl (fun _ => 0)))))), (h0, .inr (7, [.ref a, .int (nI 0), .int (nI 8), .int (nI 0), .int (nI 0), .int (nI 0), .int (nI 0)])), (a, .inl (kA 2, 4, .inr (.inr (.inr (.inr (fun _ => none)))))), (o, .inl (kA 4, 1, .inr (.inl (fun _ => 0))))] := hD
    refine lv_istore (lv' := [(6, .int (nI 1)), (5, .int (nI 0)), (4, .ref od), (3, .ref o), (2, .ref h1), (1, .ref h0), (0, .ref b)]) hx hb dL_law_1459 hl (by decide) rfl (fun ls hl => ?_)
    refine lv_aload_n hx hb dL_law_1461 rfl (lv_at hl 4 rfl) ?_
    refine lv_aload_n hx hb dL_law_1462 rfl (lv_at hl 6 rfl) ?_
    refine lv_iload hx hb dL_law_1463 (lv_at hl 1 rfl) ?_
    refine lv_iconst (v := nI 1) hx hb dL_law_1465 (by decide) ?_
    refine lv_iadd hx hb dL_law_1466 ?_
    rw [show nI 0 + nI 1 = nI 1 from by decide]
    refine va_sld hx hb hX hbl hbA hS (vp_in_nI (n := 1) (by decide) (by decide)) dL_law_1467 ?_
    rw [nI_clamp (n := 1) (by decide)]
    have hF := va_free (wc := [(h1, .inr (11, [.int (nI 0), .ref q, .int (nI 8), .int (nI 0), .int (nI 0), .int (nI 0), .int (nI 0), .long 0])), (q, .inr (1, [.int (nI 0), .ref z, .int (nI 0)]))]) hD hS hA [0, 1] rfl
    refine va_calli (va_runV (As := [.int (xs 1)]) (rest := []) ⟨hx, hb, hml, hown, hts⟩ (c_X10_many_no l D kA z h1 q (nI 0) (xs 1) hv9 _) (cwV 1 hts h_law_42 rfl rfl rfl (by decide +kernel) ⟨Nat.le_of_ble_eq_true rfl, Nat.le_of_ble_eq_true rfl⟩) (fPv hK hP hD hS hG hF [0, 1] (by decide) rfl 0 11 rfl rfl rfl) rfl rfl hl.1 rfl (lv_room (Nat.le_of_ble_eq_true rfl)) dL_law_1468 ⟨Nat.le_of_ble_eq_true rfl, Nat.le_of_ble_eq_true rfl⟩) hS (fun q _ h => hF q h) hF (fun r_5 w1 t H locs ht hvm hw hB hz1 hk1 hS => ?_)
    obtain ⟨hP, hD⟩ := fJ (wr := [(od, .inl (kA 5, 1, .inr (.inr (.inr (.inl (fun _ => 0)))))), (h0, .inr (7, [.ref a, .int (nI 0), .int (nI 8), .int (nI 0), .int (nI 0), .int (nI 0), .int (nI 0)])), (a, .inl (kA 2, 4, .inr (.inr (.inr (.inr (fun _ => none)))))), (o, .inl (kA 4, 1, .inr (.inl (fun _ => 0))))]) hP hD [0, 1] [2, 3, 4, 5] rfl rfl (by decide) (by decide) hk1 hF ht hB
    try dsimp only at hw
    subst hw
    have hP : va_P D vwCl [(od, .inl (kA 5, 1, .inr (.inr (.inr (.inl (fun _ => 0)))))), (h0, .inr (7, [.ref a, .int (nI 0), .int (nI 8), .int (nI 0), .int (nI 0), .int (nI 0), .int (nI 0)])), (a, .inl (kA 2, 4, .inr (.inr (.inr (.inr (fun _ => none)))))), (o, .inl (kA 4, 1, .inr (.inl (fun _ => 0)))), (h1, .inr (11, [.int (nI 1), .ref q, .int (nI 8), .int (nI 0), .int (nI 0), .int (nI 0), .int (nI 0), .long 0])), (q, .inr (1, [.int (nI 0), .ref z, .int (nI 0)]))] H := hP
    have hD : va_D A [(od, .inl (kA 5, 1, .inr (.inr (.inr (.inl (fun _ => 0)))))), (h0, .inr (7, [.ref a, .int (nI 0), .int (nI 8), .int (nI 0), .int (nI 0), .int (nI 0), .int (nI 0)])), (a, .inl (kA 2, 4, .inr (.inr (.inr (.inr (fun _ => none)))))), (o, .inl (kA 4, 1, .inr (.inl (fun _ => 0)))), (h1, .inr (11, [.int (nI 1), .ref q, .int (nI 8), .int (nI 0), .int (nI 0), .int (nI 0), .int (nI 0), .long 0])), (q, .inr (1, [.int (nI 0), .ref z, .int (nI 0)]))] := hD
    refine lv_istore (lv' := [(7, .int r_5), (6, .int (nI 1)), (5, .int (nI 0)), (4, .ref od), (3, .ref o), (2, .ref h1), (1, .ref h0), (0, .ref b)]) hx hb dL_law_1471 hl (by decide) rfl (fun ls hl => ?_)
    refine lv_aload_n hx hb dL_law_1473 rfl (lv_at hl 5 rfl) ?_
    have hF := va_free (wc := [(h1, .inr (11, [.int (nI 1), .ref q, .int (nI 8), .int (nI 0), .int (nI 0), .int (nI 0), .int (nI 0), .long 0]))]) hD hS hA [4] rfl
    refine va_calli (va_runV (As := []) (rest := []) ⟨hx, hb, hml, hown, hts⟩ (c_X10_thrown l D kA z h1 q (nI 1) (nI 8) (nI 0) (nI 0) (nI 0) (nI 0) 0  _) (cwV 0 hts h_law_2 rfl rfl rfl (by decide +kernel) ⟨Nat.le_of_ble_eq_true rfl, Nat.le_of_ble_eq_true rfl⟩) (fPv hK hP hD hS hG hF [4] (by decide) rfl 4 11 rfl rfl rfl) rfl rfl hl.1 rfl (lv_room (Nat.le_of_ble_eq_true rfl)) dL_law_1474 ⟨Nat.le_of_ble_eq_true rfl, Nat.le_of_ble_eq_true rfl⟩) hS (fun q _ h => hF q h) hF (fun r_6 w1 t H locs ht hvm hw hB hz1 hk1 hS => ?_)
    obtain ⟨hP, hD⟩ := fJ (wr := [(od, .inl (kA 5, 1, .inr (.inr (.inr (.inl (fun _ => 0)))))), (h0, .inr (7, [.ref a, .int (nI 0), .int (nI 8), .int (nI 0), .int (nI 0), .int (nI 0), .int (nI 0)])), (a, .inl (kA 2, 4, .inr (.inr (.inr (.inr (fun _ => none)))))), (o, .inl (kA 4, 1, .inr (.inl (fun _ => 0)))), (q, .inr (1, [.int (nI 0), .ref z, .int (nI 0)]))]) hP hD [4] [0, 1, 2, 3, 5] rfl rfl (by decide) (by decide) hk1 hF ht hB
    try dsimp only at hw
    obtain ⟨rfl, e_5⟩ := hw
    replace e_5 := e_5.symm
    subst e_5
    have hP : va_P D vwCl [(od, .inl (kA 5, 1, .inr (.inr (.inr (.inl (fun _ => 0)))))), (h0, .inr (7, [.ref a, .int (nI 0), .int (nI 8), .int (nI 0), .int (nI 0), .int (nI 0), .int (nI 0)])), (a, .inl (kA 2, 4, .inr (.inr (.inr (.inr (fun _ => none)))))), (o, .inl (kA 4, 1, .inr (.inl (fun _ => 0)))), (q, .inr (1, [.int (nI 0), .ref z, .int (nI 0)])), (h1, .inr (11, [.int (nI 1), .ref q, .int (nI 8), .int (nI 0), .int (nI 0), .int (nI 0), .int (nI 0), .long 0]))] H := hP
    have hD : va_D A [(od, .inl (kA 5, 1, .inr (.inr (.inr (.inl (fun _ => 0)))))), (h0, .inr (7, [.ref a, .int (nI 0), .int (nI 8), .int (nI 0), .int (nI 0), .int (nI 0), .int (nI 0)])), (a, .inl (kA 2, 4, .inr (.inr (.inr (.inr (fun _ => none)))))), (o, .inl (kA 4, 1, .inr (.inl (fun _ => 0)))), (q, .inr (1, [.int (nI 0), .ref z, .int (nI 0)])), (h1, .inr (11, [.int (nI 1), .ref q, .int (nI 8), .int (nI 0), .int (nI 0), .int (nI 0), .int (nI 0), .long 0]))] := hD
    refine lv_iload hx hb dL_law_1477 (lv_at hl 1 rfl) ?_
    refine lv_icmp_eq (tgt := 1484) hx hb dL_law_1479 (by decide) (fun _ => ?_) (fun c1479 => absurd (by decide) c1479)
    refine lv_iload hx hb dL_law_1484 (lv_at hl 1 rfl) ?_
    refine lv_if_ne (tgt := 1501) hx hb dL_law_1486 (by decide) (fun _ => ?_) (fun c1486 => absurd c1486 (by decide))
    refine lv_goto (tgt := 1775) hx hb dL_law_1501 (by decide) ?_
    subst hAe
    exact law_tail C0 hS (lv_sub hl [2, 7] rfl) (Nat.le_of_ble_eq_true rfl) (Nat.le_of_ble_eq_true rfl)

set_option maxHeartbeats 16000000 in
set_option maxRecDepth 100000 in
theorem law_case18 {p : Program} {e : Env} {s : State} {m : MethodId} {below : List Frame} {meth : Method} {c : Code} {l : Launch} {b : Nat} {xs : Nat → Int32} (hfl : l.stackTraces = false) (C0 : lw_At p s m meth c b 6 xs) (hts : ∀ w ∈ wq_law, w.before #[Value.ref b] s = true) {D : va_G} {kA : Nat → ClassId} {z : Nat} (hK : va_K D vwCl (tyL kA) s) (hG : gS z (fun q : Nat => s.heap.size ≤ q) s s.heap) {h0 a h1 q o od : Nat} {H : Heap} {locs : List Loc} {ls : Array Slot} (hP : va_P D vwCl [(h0, .inr (7, [.ref a, .int (nI 0), .int (nI 8), .int (nI 0), .int (nI 0), .int (nI 0), .int (nI 0)])), (a, .inl (kA 2, 4, .inr (.inr (.inr (.inr (fun _ => none)))))), (h1, .inr (11, [.int (nI 0), .ref q, .int (nI 8), .int (nI 0), .int (nI 0), .int (nI 0), .int (nI 0), .long 0])), (q, .inr (1, [.int (nI 0), .ref z, .int (nI 0)])), (o, .inl (kA 4, 1, .inr (.inl (fun _ => 0)))), (od, .inl (kA 5, 1, .inr (.inr (.inr (.inl (fun _ => 0))))))] H) (hD : va_D (fun q : Nat => s.heap.size ≤ q) [(h0, .inr (7, [.ref a, .int (nI 0), .int (nI 8), .int (nI 0), .int (nI 0), .int (nI 0), .int (nI 0)])), (a, .inl (kA 2, 4, .inr (.inr (.inr (.inr (fun _ => none)))))), (h1, .inr (11, [.int (nI 0), .ref q, .int (nI 8), .int (nI 0), .int (nI 0), .int (nI 0), .int (nI 0), .long 0])), (q, .inr (1, [.int (nI 0), .ref z, .int (nI 0)])), (o, .inl (kA 4, 1, .inr (.inl (fun _ => 0)))), (od, .inl (kA 5, 1, .inr (.inr (.inr (.inl (fun _ => 0))))))]) (hS : va_S (fun q : Nat => s.heap.size ≤ q) s.heap H locs) (hl : lv_has ls 9 [(5, .int (nI 0)), (4, .ref od), (3, .ref o), (2, .ref h1), (1, .ref h0), (0, .ref b)]) : W p l e room_1 s m #[Value.ref b] below meth c H locs 6 24 (lw_Z below #[Value.ref b] s) (F0 m 1504 ls []) := by
  obtain ⟨hx, hb, hr, hml, hown, hts0, hX, hbl, hlocks, hgv⟩ := id C0
  have hA : ∀ q : Nat, s.heap.size ≤ q → (fun q : Nat => s.heap.size ≤ q) q := fun _ h => h
  have hbA : ¬ (fun q : Nat => s.heap.size ≤ q) b := Nat.not_le.mpr hbl
  generalize hAe : (fun q : Nat => s.heap.size ≤ q) = A at hD hS hA hbA hG
  refine lv_aload_n hx hb dL_law_1504 rfl (lv_at hl 4 rfl) ?_
  refine lv_aload_n hx hb dL_law_1505 rfl (lv_at hl 5 rfl) ?_
  refine lv_iload hx hb dL_law_1506 (lv_at hl 0 rfl) ?_
  refine lv_iconst (v := nI 1) hx hb dL_law_1508 (by decide) ?_
  refine lv_iadd hx hb dL_law_1509 ?_
  rw [show nI 0 + nI 1 = nI 1 from by decide]
  refine va_sld hx hb hX hbl hbA hS (vp_in_nI (n := 1) (by decide) (by decide)) dL_law_1510 ?_
  rw [nI_clamp (n := 1) (by decide)]
  refine lv_aload hx hb dL_law_1511 (lv_at hl 1 rfl) ?_
  have hF := va_free (wc := [(h0, .inr (7, [.ref a, .int (nI 0), .int (nI 8), .int (nI 0), .int (nI 0), .int (nI 0), .int (nI 0)])), (a, .inl (kA 2, 4, .inr (.inr (.inr (.inr (fun _ => none)))))), (od, .inl (kA 5, 1, .inr (.inr (.inr (.inl (fun _ => 0))))))]) hD hS hA [0, 1, 5] rfl
  refine va_calli (vx_runSW (As := [.ref h0, .int (xs 1), .ref od]) (rest := []) ⟨hx, hb, hml, hown, hts⟩ (c_L_sure_e l D kA z hfl h0 a od (xs 1) (fun _ => 0)  _) (vx_cwSW 3 hts h_law_43 rfl rfl rfl (by decide +kernel) ⟨Nat.le_of_ble_eq_true rfl, Nat.le_of_ble_eq_true rfl⟩) (fPs hK hP hD hS hG hF [0, 1, 5] (by decide) rfl) rfl rfl hl.1 rfl (lv_room (Nat.le_of_ble_eq_true rfl)) dL_law_1513 ⟨Nat.le_of_ble_eq_true rfl, Nat.le_of_ble_eq_true rfl⟩) hS (fun q _ h => hF q h) hF (fun r_1 w1 t H locs ht hvm hw hB hz1 hk1 hS => ?_)
  obtain ⟨hP, hD⟩ := fJ (wr := [(h1, .inr (11, [.int (nI 0), .ref q, .int (nI 8), .int (nI 0), .int (nI 0), .int (nI 0), .int (nI 0), .long 0])), (q, .inr (1, [.int (nI 0), .ref z, .int (nI 0)])), (o, .inl (kA 4, 1, .inr (.inl (fun _ => 0))))]) hP hD [0, 1, 5] [2, 3, 4] rfl rfl (by decide) (by decide) hk1 hF ht hB
  try dsimp only at hw
  obtain ⟨rfl, e_1⟩ := hw
  replace e_1 := e_1.symm
  subst e_1
  have hP : va_P D vwCl [(h1, .inr (11, [.int (nI 0), .ref q, .int (nI 8), .int (nI 0), .int (nI 0), .int (nI 0), .int (nI 0), .long 0])), (q, .inr (1, [.int (nI 0), .ref z, .int (nI 0)])), (o, .inl (kA 4, 1, .inr (.inl (fun _ => 0)))), (h0, .inr (7, [.ref a, .int (nI 0), .int (nI 8), .int (nI 0), .int (nI 0), .int (nI 0), .int (nI 0)])), (a, .inl (kA 2, 4, .inr (.inr (.inr (.inr (fun _ => none)))))), (od, .inl (kA 5, 1, .inr (.inr (.inr (.inl (fun _ => 0))))))] H := hP
  have hD : va_D A [(h1, .inr (11, [.int (nI 0), .ref q, .int (nI 8), .int (nI 0), .int (nI 0), .int (nI 0), .int (nI 0), .long 0])), (q, .inr (1, [.int (nI 0), .ref z, .int (nI 0)])), (o, .inl (kA 4, 1, .inr (.inl (fun _ => 0)))), (h0, .inr (7, [.ref a, .int (nI 0), .int (nI 8), .int (nI 0), .int (nI 0), .int (nI 0), .int (nI 0)])), (a, .inl (kA 2, 4, .inr (.inr (.inr (.inr (fun _ => none)))))), (od, .inl (kA 5, 1, .inr (.inr (.inr (.inl (fun _ => 0))))))] := hD
  refine lv_istore (lv' := [(6, .int (nI 1)), (5, .int (nI 0)), (4, .ref od), (3, .ref o), (2, .ref h1), (1, .ref h0), (0, .ref b)]) hx hb dL_law_1516 hl (by decide) rfl (fun ls hl => ?_)
  refine lv_aload_n hx hb dL_law_1518 rfl (lv_at hl 4 rfl) ?_
  refine lv_aload_n hx hb dL_law_1519 rfl (lv_at hl 6 rfl) ?_
  refine lv_iload hx hb dL_law_1520 (lv_at hl 1 rfl) ?_
  refine lv_iconst (v := nI 1) hx hb dL_law_1522 (by decide) ?_
  refine lv_iadd hx hb dL_law_1523 ?_
  rw [show nI 0 + nI 1 = nI 1 from by decide]
  refine va_sld hx hb hX hbl hbA hS (vp_in_nI (n := 1) (by decide) (by decide)) dL_law_1524 ?_
  rw [nI_clamp (n := 1) (by decide)]
  have hF := va_free (wc := [(h1, .inr (11, [.int (nI 0), .ref q, .int (nI 8), .int (nI 0), .int (nI 0), .int (nI 0), .int (nI 0), .long 0])), (q, .inr (1, [.int (nI 0), .ref z, .int (nI 0)]))]) hD hS hA [0, 1] rfl
  refine va_calld (va_runV (As := [.int (xs 1)]) (rest := []) ⟨hx, hb, hml, hown, hts⟩ (c_X10_sure_e l D kA z h1 q (nI 0) (xs 1)  _) (cwV 1 hts h_law_44 rfl rfl rfl (by decide +kernel) ⟨Nat.le_of_ble_eq_true rfl, Nat.le_of_ble_eq_true rfl⟩) (fPv hK hP hD hS hG hF [0, 1] (by decide) rfl 0 11 rfl rfl rfl) rfl rfl hl.1 rfl (lv_room (Nat.le_of_ble_eq_true rfl)) dL_law_1525 ⟨Nat.le_of_ble_eq_true rfl, Nat.le_of_ble_eq_true rfl⟩) hS (fun q _ h => hF q h) hF (fun r_2 w1 t H locs ht hvm hw hB hz1 hk1 hS => ?_)
  obtain ⟨hP, hD⟩ := fJ (wr := [(o, .inl (kA 4, 1, .inr (.inl (fun _ => 0)))), (h0, .inr (7, [.ref a, .int (nI 0), .int (nI 8), .int (nI 0), .int (nI 0), .int (nI 0), .int (nI 0)])), (a, .inl (kA 2, 4, .inr (.inr (.inr (.inr (fun _ => none)))))), (od, .inl (kA 5, 1, .inr (.inr (.inr (.inl (fun _ => 0))))))]) hP hD [0, 1] [2, 3, 4, 5] rfl rfl (by decide) (by decide) hk1 hF ht hB
  try dsimp only at hw
  subst hw
  have hP : va_P D vwCl [(o, .inl (kA 4, 1, .inr (.inl (fun _ => 0)))), (h0, .inr (7, [.ref a, .int (nI 0), .int (nI 8), .int (nI 0), .int (nI 0), .int (nI 0), .int (nI 0)])), (a, .inl (kA 2, 4, .inr (.inr (.inr (.inr (fun _ => none)))))), (od, .inl (kA 5, 1, .inr (.inr (.inr (.inl (fun _ => 0)))))), (h1, .inr (11, [.int (nI 1), .ref q, .int (nI 8), .int (nI 0), .int (nI 0), .int (nI 0), .int (nI 0), .long 0])), (q, .inr (1, [.int (nI 0), .ref z, .int (nI 0)]))] H := hP
  have hD : va_D A [(o, .inl (kA 4, 1, .inr (.inl (fun _ => 0)))), (h0, .inr (7, [.ref a, .int (nI 0), .int (nI 8), .int (nI 0), .int (nI 0), .int (nI 0), .int (nI 0)])), (a, .inl (kA 2, 4, .inr (.inr (.inr (.inr (fun _ => none)))))), (od, .inl (kA 5, 1, .inr (.inr (.inr (.inl (fun _ => 0)))))), (h1, .inr (11, [.int (nI 1), .ref q, .int (nI 8), .int (nI 0), .int (nI 0), .int (nI 0), .int (nI 0), .long 0])), (q, .inr (1, [.int (nI 0), .ref z, .int (nI 0)]))] := hD
  refine lv_dstore (lv' := [(7, .double r_2), (6, .int (nI 1)), (5, .int (nI 0)), (4, .ref od), (3, .ref o), (2, .ref h1), (1, .ref h0), (0, .ref b)]) hx hb dL_law_1528 hl (by decide) rfl (fun ls hl => ?_)
  refine lv_aload_n hx hb dL_law_1530 rfl (lv_at hl 5 rfl) ?_
  have hF := va_free (wc := [(h1, .inr (11, [.int (nI 1), .ref q, .int (nI 8), .int (nI 0), .int (nI 0), .int (nI 0), .int (nI 0), .long 0]))]) hD hS hA [4] rfl
  refine va_calli (va_runV (As := []) (rest := []) ⟨hx, hb, hml, hown, hts⟩ (c_X10_thrown l D kA z h1 q (nI 1) (nI 8) (nI 0) (nI 0) (nI 0) (nI 0) 0  _) (cwV 0 hts h_law_2 rfl rfl rfl (by decide +kernel) ⟨Nat.le_of_ble_eq_true rfl, Nat.le_of_ble_eq_true rfl⟩) (fPv hK hP hD hS hG hF [4] (by decide) rfl 4 11 rfl rfl rfl) rfl rfl hl.1 rfl (lv_room (Nat.le_of_ble_eq_true rfl)) dL_law_1531 ⟨Nat.le_of_ble_eq_true rfl, Nat.le_of_ble_eq_true rfl⟩) hS (fun q _ h => hF q h) hF (fun r_3 w1 t H locs ht hvm hw hB hz1 hk1 hS => ?_)
  obtain ⟨hP, hD⟩ := fJ (wr := [(o, .inl (kA 4, 1, .inr (.inl (fun _ => 0)))), (h0, .inr (7, [.ref a, .int (nI 0), .int (nI 8), .int (nI 0), .int (nI 0), .int (nI 0), .int (nI 0)])), (a, .inl (kA 2, 4, .inr (.inr (.inr (.inr (fun _ => none)))))), (od, .inl (kA 5, 1, .inr (.inr (.inr (.inl (fun _ => 0)))))), (q, .inr (1, [.int (nI 0), .ref z, .int (nI 0)]))]) hP hD [4] [0, 1, 2, 3, 5] rfl rfl (by decide) (by decide) hk1 hF ht hB
  try dsimp only at hw
  obtain ⟨rfl, e_2⟩ := hw
  replace e_2 := e_2.symm
  subst e_2
  have hP : va_P D vwCl [(o, .inl (kA 4, 1, .inr (.inl (fun _ => 0)))), (h0, .inr (7, [.ref a, .int (nI 0), .int (nI 8), .int (nI 0), .int (nI 0), .int (nI 0), .int (nI 0)])), (a, .inl (kA 2, 4, .inr (.inr (.inr (.inr (fun _ => none)))))), (od, .inl (kA 5, 1, .inr (.inr (.inr (.inl (fun _ => 0)))))), (q, .inr (1, [.int (nI 0), .ref z, .int (nI 0)])), (h1, .inr (11, [.int (nI 1), .ref q, .int (nI 8), .int (nI 0), .int (nI 0), .int (nI 0), .int (nI 0), .long 0]))] H := hP
  have hD : va_D A [(o, .inl (kA 4, 1, .inr (.inl (fun _ => 0)))), (h0, .inr (7, [.ref a, .int (nI 0), .int (nI 8), .int (nI 0), .int (nI 0), .int (nI 0), .int (nI 0)])), (a, .inl (kA 2, 4, .inr (.inr (.inr (.inr (fun _ => none)))))), (od, .inl (kA 5, 1, .inr (.inr (.inr (.inl (fun _ => 0)))))), (q, .inr (1, [.int (nI 0), .ref z, .int (nI 0)])), (h1, .inr (11, [.int (nI 1), .ref q, .int (nI 8), .int (nI 0), .int (nI 0), .int (nI 0), .int (nI 0), .long 0]))] := hD
  refine lv_iload hx hb dL_law_1534 (lv_at hl 1 rfl) ?_
  refine lv_icmp_eq (tgt := 1541) hx hb dL_law_1536 (by decide) (fun _ => ?_) (fun c1536 => absurd (by decide) c1536)
  refine lv_iload hx hb dL_law_1541 (lv_at hl 1 rfl) ?_
  refine lv_if_ne (tgt := 1578) hx hb dL_law_1543 (by decide) (fun _ => ?_) (fun c1543 => absurd c1543 (by decide))
  refine lv_goto (tgt := 1775) hx hb dL_law_1578 (by decide) ?_
  subst hAe
  exact law_tail C0 hS (lv_sub hl [2, 7] rfl) (Nat.le_of_ble_eq_true rfl) (Nat.le_of_ble_eq_true rfl)

set_option maxHeartbeats 16000000 in
set_option maxRecDepth 100000 in
theorem law_case19 {p : Program} {e : Env} {s : State} {m : MethodId} {below : List Frame} {meth : Method} {c : Code} {l : Launch} {b : Nat} {xs : Nat → Int32} (hfl : l.stackTraces = false) (C0 : lw_At p s m meth c b 6 xs) (hts : ∀ w ∈ wq_law, w.before #[Value.ref b] s = true) {D : va_G} {kA : Nat → ClassId} {z : Nat} (hK : va_K D vwCl (tyL kA) s) (hG : gS z (fun q : Nat => s.heap.size ≤ q) s s.heap) {h0 a h1 q o od : Nat} {H : Heap} {locs : List Loc} {ls : Array Slot} (hP : va_P D vwCl [(h0, .inr (7, [.ref a, .int (nI 0), .int (nI 8), .int (nI 0), .int (nI 0), .int (nI 0), .int (nI 0)])), (a, .inl (kA 2, 4, .inr (.inr (.inr (.inr (fun _ => none)))))), (h1, .inr (11, [.int (nI 0), .ref q, .int (nI 8), .int (nI 0), .int (nI 0), .int (nI 0), .int (nI 0), .long 0])), (q, .inr (1, [.int (nI 0), .ref z, .int (nI 0)])), (o, .inl (kA 4, 1, .inr (.inl (fun _ => 0)))), (od, .inl (kA 5, 1, .inr (.inr (.inr (.inl (fun _ => 0))))))] H) (hD : va_D (fun q : Nat => s.heap.size ≤ q) [(h0, .inr (7, [.ref a, .int (nI 0), .int (nI 8), .int (nI 0), .int (nI 0), .int (nI 0), .int (nI 0)])), (a, .inl (kA 2, 4, .inr (.inr (.inr (.inr (fun _ => none)))))), (h1, .inr (11, [.int (nI 0), .ref q, .int (nI 8), .int (nI 0), .int (nI 0), .int (nI 0), .int (nI 0), .long 0])), (q, .inr (1, [.int (nI 0), .ref z, .int (nI 0)])), (o, .inl (kA 4, 1, .inr (.inl (fun _ => 0)))), (od, .inl (kA 5, 1, .inr (.inr (.inr (.inl (fun _ => 0))))))]) (hS : va_S (fun q : Nat => s.heap.size ≤ q) s.heap H locs) (hl : lv_has ls 9 [(5, .int (nI 0)), (4, .ref od), (3, .ref o), (2, .ref h1), (1, .ref h0), (0, .ref b)]) : W p l e room_1 s m #[Value.ref b] below meth c H locs 6 24 (lw_Z below #[Value.ref b] s) (F0 m 1581 ls []) := by
  obtain ⟨hx, hb, hr, hml, hown, hts0, hX, hbl, hlocks, hgv⟩ := id C0
  have hA : ∀ q : Nat, s.heap.size ≤ q → (fun q : Nat => s.heap.size ≤ q) q := fun _ h => h
  have hbA : ¬ (fun q : Nat => s.heap.size ≤ q) b := Nat.not_le.mpr hbl
  generalize hAe : (fun q : Nat => s.heap.size ≤ q) = A at hD hS hA hbA hG
  refine lv_aload_n hx hb dL_law_1581 rfl (lv_at hl 4 rfl) ?_
  refine lv_aload_n hx hb dL_law_1582 rfl (lv_at hl 5 rfl) ?_
  refine lv_iload hx hb dL_law_1583 (lv_at hl 0 rfl) ?_
  refine lv_iconst (v := nI 1) hx hb dL_law_1585 (by decide) ?_
  refine lv_iadd hx hb dL_law_1586 ?_
  rw [show nI 0 + nI 1 = nI 1 from by decide]
  refine va_sld hx hb hX hbl hbA hS (vp_in_nI (n := 1) (by decide) (by decide)) dL_law_1587 ?_
  rw [nI_clamp (n := 1) (by decide)]
  refine lv_aload_n hx hb dL_law_1588 rfl (lv_at hl 2 rfl) ?_
  have hF := va_free (wc := [(h0, .inr (7, [.ref a, .int (nI 0), .int (nI 8), .int (nI 0), .int (nI 0), .int (nI 0), .int (nI 0)])), (a, .inl (kA 2, 4, .inr (.inr (.inr (.inr (fun _ => none)))))), (o, .inl (kA 4, 1, .inr (.inl (fun _ => 0))))]) hD hS hA [0, 1, 4] rfl
  refine va_calli (vx_runSW (As := [.ref h0, .int (xs 1), .ref o]) (rest := []) ⟨hx, hb, hml, hown, hts⟩ (c_L_plainLong_e l D kA z hfl h0 a o (xs 1) (fun _ => 0)  _) (vx_cwSW 3 hts h_law_45 rfl rfl rfl (by decide +kernel) ⟨Nat.le_of_ble_eq_true rfl, Nat.le_of_ble_eq_true rfl⟩) (fPs hK hP hD hS hG hF [0, 1, 4] (by decide) rfl) rfl rfl hl.1 rfl (lv_room (Nat.le_of_ble_eq_true rfl)) dL_law_1589 ⟨Nat.le_of_ble_eq_true rfl, Nat.le_of_ble_eq_true rfl⟩) hS (fun q _ h => hF q h) hF (fun r_1 w1 t H locs ht hvm hw hB hz1 hk1 hS => ?_)
  obtain ⟨hP, hD⟩ := fJ (wr := [(h1, .inr (11, [.int (nI 0), .ref q, .int (nI 8), .int (nI 0), .int (nI 0), .int (nI 0), .int (nI 0), .long 0])), (q, .inr (1, [.int (nI 0), .ref z, .int (nI 0)])), (od, .inl (kA 5, 1, .inr (.inr (.inr (.inl (fun _ => 0))))))]) hP hD [0, 1, 4] [2, 3, 5] rfl rfl (by decide) (by decide) hk1 hF ht hB
  try dsimp only at hw
  obtain ⟨rfl, e_1⟩ := hw
  replace e_1 := e_1.symm
  subst e_1
  have hP : va_P D vwCl [(h1, .inr (11, [.int (nI 0), .ref q, .int (nI 8), .int (nI 0), .int (nI 0), .int (nI 0), .int (nI 0), .long 0])), (q, .inr (1, [.int (nI 0), .ref z, .int (nI 0)])), (od, .inl (kA 5, 1, .inr (.inr (.inr (.inl (fun _ => 0)))))), (h0, .inr (7, [.ref a, .int (nI 0), .int (nI 8), .int (nI 0), .int (nI 0), .int (nI 0), .int (nI 0)])), (a, .inl (kA 2, 4, .inr (.inr (.inr (.inr (fun _ => none)))))), (o, .inl (kA 4, 1, .inr (.inl (fun _ => 0))))] H := hP
  have hD : va_D A [(h1, .inr (11, [.int (nI 0), .ref q, .int (nI 8), .int (nI 0), .int (nI 0), .int (nI 0), .int (nI 0), .long 0])), (q, .inr (1, [.int (nI 0), .ref z, .int (nI 0)])), (od, .inl (kA 5, 1, .inr (.inr (.inr (.inl (fun _ => 0)))))), (h0, .inr (7, [.ref a, .int (nI 0), .int (nI 8), .int (nI 0), .int (nI 0), .int (nI 0), .int (nI 0)])), (a, .inl (kA 2, 4, .inr (.inr (.inr (.inr (fun _ => none)))))), (o, .inl (kA 4, 1, .inr (.inl (fun _ => 0))))] := hD
  refine lv_istore (lv' := [(6, .int (nI 1)), (5, .int (nI 0)), (4, .ref od), (3, .ref o), (2, .ref h1), (1, .ref h0), (0, .ref b)]) hx hb dL_law_1592 hl (by decide) rfl (fun ls hl => ?_)
  refine lv_aload_n hx hb dL_law_1594 rfl (lv_at hl 4 rfl) ?_
  refine lv_aload_n hx hb dL_law_1595 rfl (lv_at hl 6 rfl) ?_
  refine lv_iload hx hb dL_law_1596 (lv_at hl 1 rfl) ?_
  refine lv_iconst (v := nI 1) hx hb dL_law_1598 (by decide) ?_
  refine lv_iadd hx hb dL_law_1599 ?_
  rw [show nI 0 + nI 1 = nI 1 from by decide]
  refine va_sld hx hb hX hbl hbA hS (vp_in_nI (n := 1) (by decide) (by decide)) dL_law_1600 ?_
  rw [nI_clamp (n := 1) (by decide)]
  have hF := va_free (wc := [(h1, .inr (11, [.int (nI 0), .ref q, .int (nI 8), .int (nI 0), .int (nI 0), .int (nI 0), .int (nI 0), .long 0])), (q, .inr (1, [.int (nI 0), .ref z, .int (nI 0)]))]) hD hS hA [0, 1] rfl
  refine va_calli (va_runV (As := [.int (xs 1)]) (rest := []) ⟨hx, hb, hml, hown, hts⟩ (c_X10_plainLong_e l D kA z h1 q (nI 0) (xs 1)  _) (cwV 1 hts h_law_46 rfl rfl rfl (by decide +kernel) ⟨Nat.le_of_ble_eq_true rfl, Nat.le_of_ble_eq_true rfl⟩) (fPv hK hP hD hS hG hF [0, 1] (by decide) rfl 0 11 rfl rfl rfl) rfl rfl hl.1 rfl (lv_room (Nat.le_of_ble_eq_true rfl)) dL_law_1601 ⟨Nat.le_of_ble_eq_true rfl, Nat.le_of_ble_eq_true rfl⟩) hS (fun q _ h => hF q h) hF (fun r_2 w1 t H locs ht hvm hw hB hz1 hk1 hS => ?_)
  obtain ⟨hP, hD⟩ := fJ (wr := [(od, .inl (kA 5, 1, .inr (.inr (.inr (.inl (fun _ => 0)))))), (h0, .inr (7, [.ref a, .int (nI 0), .int (nI 8), .int (nI 0), .int (nI 0), .int (nI 0), .int (nI 0)])), (a, .inl (kA 2, 4, .inr (.inr (.inr (.inr (fun _ => none)))))), (o, .inl (kA 4, 1, .inr (.inl (fun _ => 0))))]) hP hD [0, 1] [2, 3, 4, 5] rfl rfl (by decide) (by decide) hk1 hF ht hB
  try dsimp only at hw
  subst hw
  have hP : va_P D vwCl [(od, .inl (kA 5, 1, .inr (.inr (.inr (.inl (fun _ => 0)))))), (h0, .inr (7, [.ref a, .int (nI 0), .int (nI 8), .int (nI 0), .int (nI 0), .int (nI 0), .int (nI 0)])), (a, .inl (kA 2, 4, .inr (.inr (.inr (.inr (fun _ => none)))))), (o, .inl (kA 4, 1, .inr (.inl (fun _ => 0)))), (h1, .inr (11, [.int (nI 1), .ref q, .int (nI 8), .int (nI 0), .int (nI 0), .int (nI 0), .int (nI 0), .long 0])), (q, .inr (1, [.int (nI 0), .ref z, .int (nI 0)]))] H := hP
  have hD : va_D A [(od, .inl (kA 5, 1, .inr (.inr (.inr (.inl (fun _ => 0)))))), (h0, .inr (7, [.ref a, .int (nI 0), .int (nI 8), .int (nI 0), .int (nI 0), .int (nI 0), .int (nI 0)])), (a, .inl (kA 2, 4, .inr (.inr (.inr (.inr (fun _ => none)))))), (o, .inl (kA 4, 1, .inr (.inl (fun _ => 0)))), (h1, .inr (11, [.int (nI 1), .ref q, .int (nI 8), .int (nI 0), .int (nI 0), .int (nI 0), .int (nI 0), .long 0])), (q, .inr (1, [.int (nI 0), .ref z, .int (nI 0)]))] := hD
  refine lv_istore (lv' := [(7, .int r_2), (6, .int (nI 1)), (5, .int (nI 0)), (4, .ref od), (3, .ref o), (2, .ref h1), (1, .ref h0), (0, .ref b)]) hx hb dL_law_1604 hl (by decide) rfl (fun ls hl => ?_)
  refine lv_aload_n hx hb dL_law_1606 rfl (lv_at hl 5 rfl) ?_
  have hF := va_free (wc := [(h1, .inr (11, [.int (nI 1), .ref q, .int (nI 8), .int (nI 0), .int (nI 0), .int (nI 0), .int (nI 0), .long 0]))]) hD hS hA [4] rfl
  refine va_calli (va_runV (As := []) (rest := []) ⟨hx, hb, hml, hown, hts⟩ (c_X10_thrown l D kA z h1 q (nI 1) (nI 8) (nI 0) (nI 0) (nI 0) (nI 0) 0  _) (cwV 0 hts h_law_2 rfl rfl rfl (by decide +kernel) ⟨Nat.le_of_ble_eq_true rfl, Nat.le_of_ble_eq_true rfl⟩) (fPv hK hP hD hS hG hF [4] (by decide) rfl 4 11 rfl rfl rfl) rfl rfl hl.1 rfl (lv_room (Nat.le_of_ble_eq_true rfl)) dL_law_1607 ⟨Nat.le_of_ble_eq_true rfl, Nat.le_of_ble_eq_true rfl⟩) hS (fun q _ h => hF q h) hF (fun r_3 w1 t H locs ht hvm hw hB hz1 hk1 hS => ?_)
  obtain ⟨hP, hD⟩ := fJ (wr := [(od, .inl (kA 5, 1, .inr (.inr (.inr (.inl (fun _ => 0)))))), (h0, .inr (7, [.ref a, .int (nI 0), .int (nI 8), .int (nI 0), .int (nI 0), .int (nI 0), .int (nI 0)])), (a, .inl (kA 2, 4, .inr (.inr (.inr (.inr (fun _ => none)))))), (o, .inl (kA 4, 1, .inr (.inl (fun _ => 0)))), (q, .inr (1, [.int (nI 0), .ref z, .int (nI 0)]))]) hP hD [4] [0, 1, 2, 3, 5] rfl rfl (by decide) (by decide) hk1 hF ht hB
  try dsimp only at hw
  obtain ⟨rfl, e_2⟩ := hw
  replace e_2 := e_2.symm
  subst e_2
  have hP : va_P D vwCl [(od, .inl (kA 5, 1, .inr (.inr (.inr (.inl (fun _ => 0)))))), (h0, .inr (7, [.ref a, .int (nI 0), .int (nI 8), .int (nI 0), .int (nI 0), .int (nI 0), .int (nI 0)])), (a, .inl (kA 2, 4, .inr (.inr (.inr (.inr (fun _ => none)))))), (o, .inl (kA 4, 1, .inr (.inl (fun _ => 0)))), (q, .inr (1, [.int (nI 0), .ref z, .int (nI 0)])), (h1, .inr (11, [.int (nI 1), .ref q, .int (nI 8), .int (nI 0), .int (nI 0), .int (nI 0), .int (nI 0), .long 0]))] H := hP
  have hD : va_D A [(od, .inl (kA 5, 1, .inr (.inr (.inr (.inl (fun _ => 0)))))), (h0, .inr (7, [.ref a, .int (nI 0), .int (nI 8), .int (nI 0), .int (nI 0), .int (nI 0), .int (nI 0)])), (a, .inl (kA 2, 4, .inr (.inr (.inr (.inr (fun _ => none)))))), (o, .inl (kA 4, 1, .inr (.inl (fun _ => 0)))), (q, .inr (1, [.int (nI 0), .ref z, .int (nI 0)])), (h1, .inr (11, [.int (nI 1), .ref q, .int (nI 8), .int (nI 0), .int (nI 0), .int (nI 0), .int (nI 0), .long 0]))] := hD
  refine lv_iload hx hb dL_law_1610 (lv_at hl 1 rfl) ?_
  refine lv_icmp_eq (tgt := 1617) hx hb dL_law_1612 (by decide) (fun _ => ?_) (fun c1612 => absurd (by decide) c1612)
  refine lv_iload hx hb dL_law_1617 (lv_at hl 1 rfl) ?_
  refine lv_if_ne (tgt := 1634) hx hb dL_law_1619 (by decide) (fun _ => ?_) (fun c1619 => absurd c1619 (by decide))
  refine lv_goto (tgt := 1775) hx hb dL_law_1634 (by decide) ?_
  subst hAe
  exact law_tail C0 hS (lv_sub hl [2, 7] rfl) (Nat.le_of_ble_eq_true rfl) (Nat.le_of_ble_eq_true rfl)

set_option maxHeartbeats 16000000 in
set_option maxRecDepth 100000 in
theorem law_case20 {p : Program} {e : Env} {s : State} {m : MethodId} {below : List Frame} {meth : Method} {c : Code} {l : Launch} {b : Nat} {xs : Nat → Int32} (hfl : l.stackTraces = false) (C0 : lw_At p s m meth c b 6 xs) (hts : ∀ w ∈ wq_law, w.before #[Value.ref b] s = true) {D : va_G} {kA : Nat → ClassId} {z : Nat} (hK : va_K D vwCl (tyL kA) s) (hG : gS z (fun q : Nat => s.heap.size ≤ q) s s.heap) {h0 a h1 q o od : Nat} {H : Heap} {locs : List Loc} {ls : Array Slot} (hP : va_P D vwCl [(h0, .inr (7, [.ref a, .int (nI 0), .int (nI 8), .int (nI 0), .int (nI 0), .int (nI 0), .int (nI 0)])), (a, .inl (kA 2, 4, .inr (.inr (.inr (.inr (fun _ => none)))))), (h1, .inr (11, [.int (nI 0), .ref q, .int (nI 8), .int (nI 0), .int (nI 0), .int (nI 0), .int (nI 0), .long 0])), (q, .inr (1, [.int (nI 0), .ref z, .int (nI 0)])), (o, .inl (kA 4, 1, .inr (.inl (fun _ => 0)))), (od, .inl (kA 5, 1, .inr (.inr (.inr (.inl (fun _ => 0))))))] H) (hD : va_D (fun q : Nat => s.heap.size ≤ q) [(h0, .inr (7, [.ref a, .int (nI 0), .int (nI 8), .int (nI 0), .int (nI 0), .int (nI 0), .int (nI 0)])), (a, .inl (kA 2, 4, .inr (.inr (.inr (.inr (fun _ => none)))))), (h1, .inr (11, [.int (nI 0), .ref q, .int (nI 8), .int (nI 0), .int (nI 0), .int (nI 0), .int (nI 0), .long 0])), (q, .inr (1, [.int (nI 0), .ref z, .int (nI 0)])), (o, .inl (kA 4, 1, .inr (.inl (fun _ => 0)))), (od, .inl (kA 5, 1, .inr (.inr (.inr (.inl (fun _ => 0))))))]) (hS : va_S (fun q : Nat => s.heap.size ≤ q) s.heap H locs) (hl : lv_has ls 9 [(5, .int (nI 0)), (4, .ref od), (3, .ref o), (2, .ref h1), (1, .ref h0), (0, .ref b)]) : W p l e room_1 s m #[Value.ref b] below meth c H locs 6 24 (lw_Z below #[Value.ref b] s) (F0 m 1637 ls []) := by
  obtain ⟨hx, hb, hr, hml, hown, hts0, hX, hbl, hlocks, hgv⟩ := id C0
  have hA : ∀ q : Nat, s.heap.size ≤ q → (fun q : Nat => s.heap.size ≤ q) q := fun _ h => h
  have hbA : ¬ (fun q : Nat => s.heap.size ≤ q) b := Nat.not_le.mpr hbl
  generalize hAe : (fun q : Nat => s.heap.size ≤ q) = A at hD hS hA hbA hG
  refine lv_aload_n hx hb dL_law_1637 rfl (lv_at hl 4 rfl) ?_
  refine lv_aload_n hx hb dL_law_1638 rfl (lv_at hl 5 rfl) ?_
  refine lv_iload hx hb dL_law_1639 (lv_at hl 0 rfl) ?_
  refine lv_iconst (v := nI 1) hx hb dL_law_1641 (by decide) ?_
  refine lv_iadd hx hb dL_law_1642 ?_
  rw [show nI 0 + nI 1 = nI 1 from by decide]
  refine va_sld hx hb hX hbl hbA hS (vp_in_nI (n := 1) (by decide) (by decide)) dL_law_1643 ?_
  rw [nI_clamp (n := 1) (by decide)]
  refine lv_aload_n hx hb dL_law_1644 rfl (lv_at hl 2 rfl) ?_
  have hF := va_free (wc := [(h0, .inr (7, [.ref a, .int (nI 0), .int (nI 8), .int (nI 0), .int (nI 0), .int (nI 0), .int (nI 0)])), (a, .inl (kA 2, 4, .inr (.inr (.inr (.inr (fun _ => none)))))), (o, .inl (kA 4, 1, .inr (.inl (fun _ => 0))))]) hD hS hA [0, 1, 4] rfl
  refine va_calli (vx_runSW (As := [.ref h0, .int (xs 1), .ref o]) (rest := []) ⟨hx, hb, hml, hown, hts⟩ (c_L_wouldLose_e l D kA z hfl h0 a o (xs 1) (fun _ => 0)  _) (vx_cwSW 3 hts h_law_47 rfl rfl rfl (by decide +kernel) ⟨Nat.le_of_ble_eq_true rfl, Nat.le_of_ble_eq_true rfl⟩) (fPs hK hP hD hS hG hF [0, 1, 4] (by decide) rfl) rfl rfl hl.1 rfl (lv_room (Nat.le_of_ble_eq_true rfl)) dL_law_1645 ⟨Nat.le_of_ble_eq_true rfl, Nat.le_of_ble_eq_true rfl⟩) hS (fun q _ h => hF q h) hF (fun r_1 w1 t H locs ht hvm hw hB hz1 hk1 hS => ?_)
  obtain ⟨hP, hD⟩ := fJ (wr := [(h1, .inr (11, [.int (nI 0), .ref q, .int (nI 8), .int (nI 0), .int (nI 0), .int (nI 0), .int (nI 0), .long 0])), (q, .inr (1, [.int (nI 0), .ref z, .int (nI 0)])), (od, .inl (kA 5, 1, .inr (.inr (.inr (.inl (fun _ => 0))))))]) hP hD [0, 1, 4] [2, 3, 5] rfl rfl (by decide) (by decide) hk1 hF ht hB
  try dsimp only at hw
  obtain ⟨rfl, e_1⟩ := hw
  replace e_1 := e_1.symm
  subst e_1
  have hP : va_P D vwCl [(h1, .inr (11, [.int (nI 0), .ref q, .int (nI 8), .int (nI 0), .int (nI 0), .int (nI 0), .int (nI 0), .long 0])), (q, .inr (1, [.int (nI 0), .ref z, .int (nI 0)])), (od, .inl (kA 5, 1, .inr (.inr (.inr (.inl (fun _ => 0)))))), (h0, .inr (7, [.ref a, .int (nI 0), .int (nI 8), .int (nI 0), .int (nI 0), .int (nI 0), .int (nI 0)])), (a, .inl (kA 2, 4, .inr (.inr (.inr (.inr (fun _ => none)))))), (o, .inl (kA 4, 1, .inr (.inl (fun _ => 0))))] H := hP
  have hD : va_D A [(h1, .inr (11, [.int (nI 0), .ref q, .int (nI 8), .int (nI 0), .int (nI 0), .int (nI 0), .int (nI 0), .long 0])), (q, .inr (1, [.int (nI 0), .ref z, .int (nI 0)])), (od, .inl (kA 5, 1, .inr (.inr (.inr (.inl (fun _ => 0)))))), (h0, .inr (7, [.ref a, .int (nI 0), .int (nI 8), .int (nI 0), .int (nI 0), .int (nI 0), .int (nI 0)])), (a, .inl (kA 2, 4, .inr (.inr (.inr (.inr (fun _ => none)))))), (o, .inl (kA 4, 1, .inr (.inl (fun _ => 0))))] := hD
  refine lv_istore (lv' := [(6, .int (nI 1)), (5, .int (nI 0)), (4, .ref od), (3, .ref o), (2, .ref h1), (1, .ref h0), (0, .ref b)]) hx hb dL_law_1648 hl (by decide) rfl (fun ls hl => ?_)
  refine lv_aload_n hx hb dL_law_1650 rfl (lv_at hl 4 rfl) ?_
  refine lv_aload_n hx hb dL_law_1651 rfl (lv_at hl 6 rfl) ?_
  refine lv_iload hx hb dL_law_1652 (lv_at hl 1 rfl) ?_
  refine lv_iconst (v := nI 1) hx hb dL_law_1654 (by decide) ?_
  refine lv_iadd hx hb dL_law_1655 ?_
  rw [show nI 0 + nI 1 = nI 1 from by decide]
  refine va_sld hx hb hX hbl hbA hS (vp_in_nI (n := 1) (by decide) (by decide)) dL_law_1656 ?_
  rw [nI_clamp (n := 1) (by decide)]
  have hF := va_free (wc := [(h1, .inr (11, [.int (nI 0), .ref q, .int (nI 8), .int (nI 0), .int (nI 0), .int (nI 0), .int (nI 0), .long 0])), (q, .inr (1, [.int (nI 0), .ref z, .int (nI 0)]))]) hD hS hA [0, 1] rfl
  refine va_calli (va_runV (As := [.int (xs 1)]) (rest := []) ⟨hx, hb, hml, hown, hts⟩ (c_X10_wouldLose_e l D kA z h1 q (nI 0) (xs 1)  _) (cwV 1 hts h_law_48 rfl rfl rfl (by decide +kernel) ⟨Nat.le_of_ble_eq_true rfl, Nat.le_of_ble_eq_true rfl⟩) (fPv hK hP hD hS hG hF [0, 1] (by decide) rfl 0 11 rfl rfl rfl) rfl rfl hl.1 rfl (lv_room (Nat.le_of_ble_eq_true rfl)) dL_law_1657 ⟨Nat.le_of_ble_eq_true rfl, Nat.le_of_ble_eq_true rfl⟩) hS (fun q _ h => hF q h) hF (fun r_2 w1 t H locs ht hvm hw hB hz1 hk1 hS => ?_)
  obtain ⟨hP, hD⟩ := fJ (wr := [(od, .inl (kA 5, 1, .inr (.inr (.inr (.inl (fun _ => 0)))))), (h0, .inr (7, [.ref a, .int (nI 0), .int (nI 8), .int (nI 0), .int (nI 0), .int (nI 0), .int (nI 0)])), (a, .inl (kA 2, 4, .inr (.inr (.inr (.inr (fun _ => none)))))), (o, .inl (kA 4, 1, .inr (.inl (fun _ => 0))))]) hP hD [0, 1] [2, 3, 4, 5] rfl rfl (by decide) (by decide) hk1 hF ht hB
  try dsimp only at hw
  subst hw
  have hP : va_P D vwCl [(od, .inl (kA 5, 1, .inr (.inr (.inr (.inl (fun _ => 0)))))), (h0, .inr (7, [.ref a, .int (nI 0), .int (nI 8), .int (nI 0), .int (nI 0), .int (nI 0), .int (nI 0)])), (a, .inl (kA 2, 4, .inr (.inr (.inr (.inr (fun _ => none)))))), (o, .inl (kA 4, 1, .inr (.inl (fun _ => 0)))), (h1, .inr (11, [.int (nI 1), .ref q, .int (nI 8), .int (nI 0), .int (nI 0), .int (nI 0), .int (nI 0), .long 0])), (q, .inr (1, [.int (nI 0), .ref z, .int (nI 0)]))] H := hP
  have hD : va_D A [(od, .inl (kA 5, 1, .inr (.inr (.inr (.inl (fun _ => 0)))))), (h0, .inr (7, [.ref a, .int (nI 0), .int (nI 8), .int (nI 0), .int (nI 0), .int (nI 0), .int (nI 0)])), (a, .inl (kA 2, 4, .inr (.inr (.inr (.inr (fun _ => none)))))), (o, .inl (kA 4, 1, .inr (.inl (fun _ => 0)))), (h1, .inr (11, [.int (nI 1), .ref q, .int (nI 8), .int (nI 0), .int (nI 0), .int (nI 0), .int (nI 0), .long 0])), (q, .inr (1, [.int (nI 0), .ref z, .int (nI 0)]))] := hD
  refine lv_istore (lv' := [(7, .int r_2), (6, .int (nI 1)), (5, .int (nI 0)), (4, .ref od), (3, .ref o), (2, .ref h1), (1, .ref h0), (0, .ref b)]) hx hb dL_law_1660 hl (by decide) rfl (fun ls hl => ?_)
  refine lv_aload_n hx hb dL_law_1662 rfl (lv_at hl 5 rfl) ?_
  have hF := va_free (wc := [(h1, .inr (11, [.int (nI 1), .ref q, .int (nI 8), .int (nI 0), .int (nI 0), .int (nI 0), .int (nI 0), .long 0]))]) hD hS hA [4] rfl
  refine va_calli (va_runV (As := []) (rest := []) ⟨hx, hb, hml, hown, hts⟩ (c_X10_thrown l D kA z h1 q (nI 1) (nI 8) (nI 0) (nI 0) (nI 0) (nI 0) 0  _) (cwV 0 hts h_law_2 rfl rfl rfl (by decide +kernel) ⟨Nat.le_of_ble_eq_true rfl, Nat.le_of_ble_eq_true rfl⟩) (fPv hK hP hD hS hG hF [4] (by decide) rfl 4 11 rfl rfl rfl) rfl rfl hl.1 rfl (lv_room (Nat.le_of_ble_eq_true rfl)) dL_law_1663 ⟨Nat.le_of_ble_eq_true rfl, Nat.le_of_ble_eq_true rfl⟩) hS (fun q _ h => hF q h) hF (fun r_3 w1 t H locs ht hvm hw hB hz1 hk1 hS => ?_)
  obtain ⟨hP, hD⟩ := fJ (wr := [(od, .inl (kA 5, 1, .inr (.inr (.inr (.inl (fun _ => 0)))))), (h0, .inr (7, [.ref a, .int (nI 0), .int (nI 8), .int (nI 0), .int (nI 0), .int (nI 0), .int (nI 0)])), (a, .inl (kA 2, 4, .inr (.inr (.inr (.inr (fun _ => none)))))), (o, .inl (kA 4, 1, .inr (.inl (fun _ => 0)))), (q, .inr (1, [.int (nI 0), .ref z, .int (nI 0)]))]) hP hD [4] [0, 1, 2, 3, 5] rfl rfl (by decide) (by decide) hk1 hF ht hB
  try dsimp only at hw
  obtain ⟨rfl, e_2⟩ := hw
  replace e_2 := e_2.symm
  subst e_2
  have hP : va_P D vwCl [(od, .inl (kA 5, 1, .inr (.inr (.inr (.inl (fun _ => 0)))))), (h0, .inr (7, [.ref a, .int (nI 0), .int (nI 8), .int (nI 0), .int (nI 0), .int (nI 0), .int (nI 0)])), (a, .inl (kA 2, 4, .inr (.inr (.inr (.inr (fun _ => none)))))), (o, .inl (kA 4, 1, .inr (.inl (fun _ => 0)))), (q, .inr (1, [.int (nI 0), .ref z, .int (nI 0)])), (h1, .inr (11, [.int (nI 1), .ref q, .int (nI 8), .int (nI 0), .int (nI 0), .int (nI 0), .int (nI 0), .long 0]))] H := hP
  have hD : va_D A [(od, .inl (kA 5, 1, .inr (.inr (.inr (.inl (fun _ => 0)))))), (h0, .inr (7, [.ref a, .int (nI 0), .int (nI 8), .int (nI 0), .int (nI 0), .int (nI 0), .int (nI 0)])), (a, .inl (kA 2, 4, .inr (.inr (.inr (.inr (fun _ => none)))))), (o, .inl (kA 4, 1, .inr (.inl (fun _ => 0)))), (q, .inr (1, [.int (nI 0), .ref z, .int (nI 0)])), (h1, .inr (11, [.int (nI 1), .ref q, .int (nI 8), .int (nI 0), .int (nI 0), .int (nI 0), .int (nI 0), .long 0]))] := hD
  refine lv_iload hx hb dL_law_1666 (lv_at hl 1 rfl) ?_
  refine lv_icmp_eq (tgt := 1673) hx hb dL_law_1668 (by decide) (fun _ => ?_) (fun c1668 => absurd (by decide) c1668)
  refine lv_iload hx hb dL_law_1673 (lv_at hl 1 rfl) ?_
  refine lv_if_ne (tgt := 1690) hx hb dL_law_1675 (by decide) (fun _ => ?_) (fun c1675 => absurd c1675 (by decide))
  refine lv_goto (tgt := 1775) hx hb dL_law_1690 (by decide) ?_
  subst hAe
  exact law_tail C0 hS (lv_sub hl [2, 7] rfl) (Nat.le_of_ble_eq_true rfl) (Nat.le_of_ble_eq_true rfl)

set_option maxHeartbeats 16000000 in
set_option maxRecDepth 100000 in
theorem law_case21 {p : Program} {e : Env} {s : State} {m : MethodId} {below : List Frame} {meth : Method} {c : Code} {l : Launch} {b : Nat} {xs : Nat → Int32} (hfl : l.stackTraces = false) (C0 : lw_At p s m meth c b 6 xs) (hts : ∀ w ∈ wq_law, w.before #[Value.ref b] s = true) {D : va_G} {kA : Nat → ClassId} {z : Nat} (hK : va_K D vwCl (tyL kA) s) (hG : gS z (fun q : Nat => s.heap.size ≤ q) s s.heap) {h0 a h1 q o od : Nat} {H : Heap} {locs : List Loc} {ls : Array Slot} (hP : va_P D vwCl [(h0, .inr (7, [.ref a, .int (nI 0), .int (nI 8), .int (nI 0), .int (nI 0), .int (nI 0), .int (nI 0)])), (a, .inl (kA 2, 4, .inr (.inr (.inr (.inr (fun _ => none)))))), (h1, .inr (11, [.int (nI 0), .ref q, .int (nI 8), .int (nI 0), .int (nI 0), .int (nI 0), .int (nI 0), .long 0])), (q, .inr (1, [.int (nI 0), .ref z, .int (nI 0)])), (o, .inl (kA 4, 1, .inr (.inl (fun _ => 0)))), (od, .inl (kA 5, 1, .inr (.inr (.inr (.inl (fun _ => 0))))))] H) (hD : va_D (fun q : Nat => s.heap.size ≤ q) [(h0, .inr (7, [.ref a, .int (nI 0), .int (nI 8), .int (nI 0), .int (nI 0), .int (nI 0), .int (nI 0)])), (a, .inl (kA 2, 4, .inr (.inr (.inr (.inr (fun _ => none)))))), (h1, .inr (11, [.int (nI 0), .ref q, .int (nI 8), .int (nI 0), .int (nI 0), .int (nI 0), .int (nI 0), .long 0])), (q, .inr (1, [.int (nI 0), .ref z, .int (nI 0)])), (o, .inl (kA 4, 1, .inr (.inl (fun _ => 0)))), (od, .inl (kA 5, 1, .inr (.inr (.inr (.inl (fun _ => 0))))))]) (hS : va_S (fun q : Nat => s.heap.size ≤ q) s.heap H locs) (hl : lv_has ls 9 [(5, .int (nI 0)), (4, .ref od), (3, .ref o), (2, .ref h1), (1, .ref h0), (0, .ref b)]) : W p l e room_1 s m #[Value.ref b] below meth c H locs 6 24 (lw_Z below #[Value.ref b] s) (F0 m 1693 ls []) := by
  obtain ⟨hx, hb, hr, hml, hown, hts0, hX, hbl, hlocks, hgv⟩ := id C0
  have hA : ∀ q : Nat, s.heap.size ≤ q → (fun q : Nat => s.heap.size ≤ q) q := fun _ h => h
  have hbA : ¬ (fun q : Nat => s.heap.size ≤ q) b := Nat.not_le.mpr hbl
  generalize hAe : (fun q : Nat => s.heap.size ≤ q) = A at hD hS hA hbA hG
  refine lv_aload_n hx hb dL_law_1693 rfl (lv_at hl 4 rfl) ?_
  refine lv_aload_n hx hb dL_law_1694 rfl (lv_at hl 5 rfl) ?_
  refine lv_iload hx hb dL_law_1695 (lv_at hl 0 rfl) ?_
  refine lv_iconst (v := nI 1) hx hb dL_law_1697 (by decide) ?_
  refine lv_iadd hx hb dL_law_1698 ?_
  rw [show nI 0 + nI 1 = nI 1 from by decide]
  refine va_sld hx hb hX hbl hbA hS (vp_in_nI (n := 1) (by decide) (by decide)) dL_law_1699 ?_
  rw [nI_clamp (n := 1) (by decide)]
  refine lv_aload_n hx hb dL_law_1700 rfl (lv_at hl 5 rfl) ?_
  refine lv_iload hx hb dL_law_1701 (lv_at hl 0 rfl) ?_
  refine lv_iconst (v := nI 2) hx hb dL_law_1703 (by decide) ?_
  refine lv_iadd hx hb dL_law_1704 ?_
  rw [show nI 0 + nI 2 = nI 2 from by decide]
  refine va_sld hx hb hX hbl hbA hS (vp_in_nI (n := 2) (by decide) (by decide)) dL_law_1705 ?_
  rw [nI_clamp (n := 2) (by decide)]
  refine lv_aload_n hx hb dL_law_1706 rfl (lv_at hl 2 rfl) ?_
  have hF := va_free (wc := [(h0, .inr (7, [.ref a, .int (nI 0), .int (nI 8), .int (nI 0), .int (nI 0), .int (nI 0), .int (nI 0)])), (a, .inl (kA 2, 4, .inr (.inr (.inr (.inr (fun _ => none)))))), (o, .inl (kA 4, 1, .inr (.inl (fun _ => 0))))]) hD hS hA [0, 1, 4] rfl
  refine va_calli (vx_runSW (As := [.ref h0, .int (xs 1), .int (xs 2), .ref o]) (rest := []) ⟨hx, hb, hml, hown, hts⟩ (c_L_goodBy_e l D kA z hfl h0 a o (xs 1) (xs 2) (fun _ => 0)  _) (vx_cwSW 4 hts h_law_49 rfl rfl rfl (by decide +kernel) ⟨Nat.le_of_ble_eq_true rfl, Nat.le_of_ble_eq_true rfl⟩) (fPs hK hP hD hS hG hF [0, 1, 4] (by decide) rfl) rfl rfl hl.1 rfl (lv_room (Nat.le_of_ble_eq_true rfl)) dL_law_1707 ⟨Nat.le_of_ble_eq_true rfl, Nat.le_of_ble_eq_true rfl⟩) hS (fun q _ h => hF q h) hF (fun r_1 w1 t H locs ht hvm hw hB hz1 hk1 hS => ?_)
  obtain ⟨hP, hD⟩ := fJ (wr := [(h1, .inr (11, [.int (nI 0), .ref q, .int (nI 8), .int (nI 0), .int (nI 0), .int (nI 0), .int (nI 0), .long 0])), (q, .inr (1, [.int (nI 0), .ref z, .int (nI 0)])), (od, .inl (kA 5, 1, .inr (.inr (.inr (.inl (fun _ => 0))))))]) hP hD [0, 1, 4] [2, 3, 5] rfl rfl (by decide) (by decide) hk1 hF ht hB
  try dsimp only at hw
  obtain ⟨rfl, e_1⟩ := hw
  replace e_1 := e_1.symm
  subst e_1
  have hP : va_P D vwCl [(h1, .inr (11, [.int (nI 0), .ref q, .int (nI 8), .int (nI 0), .int (nI 0), .int (nI 0), .int (nI 0), .long 0])), (q, .inr (1, [.int (nI 0), .ref z, .int (nI 0)])), (od, .inl (kA 5, 1, .inr (.inr (.inr (.inl (fun _ => 0)))))), (h0, .inr (7, [.ref a, .int (nI 0), .int (nI 8), .int (nI 0), .int (nI 0), .int (nI 0), .int (nI 0)])), (a, .inl (kA 2, 4, .inr (.inr (.inr (.inr (fun _ => none)))))), (o, .inl (kA 4, 1, .inr (.inl (fun _ => 0))))] H := hP
  have hD : va_D A [(h1, .inr (11, [.int (nI 0), .ref q, .int (nI 8), .int (nI 0), .int (nI 0), .int (nI 0), .int (nI 0), .long 0])), (q, .inr (1, [.int (nI 0), .ref z, .int (nI 0)])), (od, .inl (kA 5, 1, .inr (.inr (.inr (.inl (fun _ => 0)))))), (h0, .inr (7, [.ref a, .int (nI 0), .int (nI 8), .int (nI 0), .int (nI 0), .int (nI 0), .int (nI 0)])), (a, .inl (kA 2, 4, .inr (.inr (.inr (.inr (fun _ => none)))))), (o, .inl (kA 4, 1, .inr (.inl (fun _ => 0))))] := hD
  refine lv_istore (lv' := [(6, .int (nI 1)), (5, .int (nI 0)), (4, .ref od), (3, .ref o), (2, .ref h1), (1, .ref h0), (0, .ref b)]) hx hb dL_law_1710 hl (by decide) rfl (fun ls hl => ?_)
  refine lv_aload_n hx hb dL_law_1712 rfl (lv_at hl 4 rfl) ?_
  refine lv_aload_n hx hb dL_law_1713 rfl (lv_at hl 6 rfl) ?_
  refine lv_iload hx hb dL_law_1714 (lv_at hl 1 rfl) ?_
  refine lv_iconst (v := nI 1) hx hb dL_law_1716 (by decide) ?_
  refine lv_iadd hx hb dL_law_1717 ?_
  rw [show nI 0 + nI 1 = nI 1 from by decide]
  refine va_sld hx hb hX hbl hbA hS (vp_in_nI (n := 1) (by decide) (by decide)) dL_law_1718 ?_
  rw [nI_clamp (n := 1) (by decide)]
  refine lv_aload_n hx hb dL_law_1719 rfl (lv_at hl 6 rfl) ?_
  refine lv_iload hx hb dL_law_1720 (lv_at hl 1 rfl) ?_
  refine lv_iconst (v := nI 2) hx hb dL_law_1722 (by decide) ?_
  refine lv_iadd hx hb dL_law_1723 ?_
  rw [show nI 0 + nI 2 = nI 2 from by decide]
  refine va_sld hx hb hX hbl hbA hS (vp_in_nI (n := 2) (by decide) (by decide)) dL_law_1724 ?_
  rw [nI_clamp (n := 2) (by decide)]
  have hF := va_free (wc := [(h1, .inr (11, [.int (nI 0), .ref q, .int (nI 8), .int (nI 0), .int (nI 0), .int (nI 0), .int (nI 0), .long 0])), (q, .inr (1, [.int (nI 0), .ref z, .int (nI 0)]))]) hD hS hA [0, 1] rfl
  refine va_calli (va_runV (As := [.int (xs 1), .int (xs 2)]) (rest := []) ⟨hx, hb, hml, hown, hts⟩ (c_X10_goodBy_e l D kA z h1 q (nI 0) (xs 1) (xs 2)  _) (cwV 2 hts h_law_50 rfl rfl rfl (by decide +kernel) ⟨Nat.le_of_ble_eq_true rfl, Nat.le_of_ble_eq_true rfl⟩) (fPv hK hP hD hS hG hF [0, 1] (by decide) rfl 0 11 rfl rfl rfl) rfl rfl hl.1 rfl (lv_room (Nat.le_of_ble_eq_true rfl)) dL_law_1725 ⟨Nat.le_of_ble_eq_true rfl, Nat.le_of_ble_eq_true rfl⟩) hS (fun q _ h => hF q h) hF (fun r_2 w1 t H locs ht hvm hw hB hz1 hk1 hS => ?_)
  obtain ⟨hP, hD⟩ := fJ (wr := [(od, .inl (kA 5, 1, .inr (.inr (.inr (.inl (fun _ => 0)))))), (h0, .inr (7, [.ref a, .int (nI 0), .int (nI 8), .int (nI 0), .int (nI 0), .int (nI 0), .int (nI 0)])), (a, .inl (kA 2, 4, .inr (.inr (.inr (.inr (fun _ => none)))))), (o, .inl (kA 4, 1, .inr (.inl (fun _ => 0))))]) hP hD [0, 1] [2, 3, 4, 5] rfl rfl (by decide) (by decide) hk1 hF ht hB
  try dsimp only at hw
  subst hw
  have hP : va_P D vwCl [(od, .inl (kA 5, 1, .inr (.inr (.inr (.inl (fun _ => 0)))))), (h0, .inr (7, [.ref a, .int (nI 0), .int (nI 8), .int (nI 0), .int (nI 0), .int (nI 0), .int (nI 0)])), (a, .inl (kA 2, 4, .inr (.inr (.inr (.inr (fun _ => none)))))), (o, .inl (kA 4, 1, .inr (.inl (fun _ => 0)))), (h1, .inr (11, [.int (nI 1), .ref q, .int (nI 8), .int (nI 0), .int (nI 0), .int (nI 0), .int (nI 0), .long 0])), (q, .inr (1, [.int (nI 0), .ref z, .int (nI 0)]))] H := hP
  have hD : va_D A [(od, .inl (kA 5, 1, .inr (.inr (.inr (.inl (fun _ => 0)))))), (h0, .inr (7, [.ref a, .int (nI 0), .int (nI 8), .int (nI 0), .int (nI 0), .int (nI 0), .int (nI 0)])), (a, .inl (kA 2, 4, .inr (.inr (.inr (.inr (fun _ => none)))))), (o, .inl (kA 4, 1, .inr (.inl (fun _ => 0)))), (h1, .inr (11, [.int (nI 1), .ref q, .int (nI 8), .int (nI 0), .int (nI 0), .int (nI 0), .int (nI 0), .long 0])), (q, .inr (1, [.int (nI 0), .ref z, .int (nI 0)]))] := hD
  refine lv_istore (lv' := [(7, .int r_2), (6, .int (nI 1)), (5, .int (nI 0)), (4, .ref od), (3, .ref o), (2, .ref h1), (1, .ref h0), (0, .ref b)]) hx hb dL_law_1728 hl (by decide) rfl (fun ls hl => ?_)
  refine lv_aload_n hx hb dL_law_1730 rfl (lv_at hl 5 rfl) ?_
  have hF := va_free (wc := [(h1, .inr (11, [.int (nI 1), .ref q, .int (nI 8), .int (nI 0), .int (nI 0), .int (nI 0), .int (nI 0), .long 0]))]) hD hS hA [4] rfl
  refine va_calli (va_runV (As := []) (rest := []) ⟨hx, hb, hml, hown, hts⟩ (c_X10_thrown l D kA z h1 q (nI 1) (nI 8) (nI 0) (nI 0) (nI 0) (nI 0) 0  _) (cwV 0 hts h_law_2 rfl rfl rfl (by decide +kernel) ⟨Nat.le_of_ble_eq_true rfl, Nat.le_of_ble_eq_true rfl⟩) (fPv hK hP hD hS hG hF [4] (by decide) rfl 4 11 rfl rfl rfl) rfl rfl hl.1 rfl (lv_room (Nat.le_of_ble_eq_true rfl)) dL_law_1731 ⟨Nat.le_of_ble_eq_true rfl, Nat.le_of_ble_eq_true rfl⟩) hS (fun q _ h => hF q h) hF (fun r_3 w1 t H locs ht hvm hw hB hz1 hk1 hS => ?_)
  obtain ⟨hP, hD⟩ := fJ (wr := [(od, .inl (kA 5, 1, .inr (.inr (.inr (.inl (fun _ => 0)))))), (h0, .inr (7, [.ref a, .int (nI 0), .int (nI 8), .int (nI 0), .int (nI 0), .int (nI 0), .int (nI 0)])), (a, .inl (kA 2, 4, .inr (.inr (.inr (.inr (fun _ => none)))))), (o, .inl (kA 4, 1, .inr (.inl (fun _ => 0)))), (q, .inr (1, [.int (nI 0), .ref z, .int (nI 0)]))]) hP hD [4] [0, 1, 2, 3, 5] rfl rfl (by decide) (by decide) hk1 hF ht hB
  try dsimp only at hw
  obtain ⟨rfl, e_2⟩ := hw
  replace e_2 := e_2.symm
  subst e_2
  have hP : va_P D vwCl [(od, .inl (kA 5, 1, .inr (.inr (.inr (.inl (fun _ => 0)))))), (h0, .inr (7, [.ref a, .int (nI 0), .int (nI 8), .int (nI 0), .int (nI 0), .int (nI 0), .int (nI 0)])), (a, .inl (kA 2, 4, .inr (.inr (.inr (.inr (fun _ => none)))))), (o, .inl (kA 4, 1, .inr (.inl (fun _ => 0)))), (q, .inr (1, [.int (nI 0), .ref z, .int (nI 0)])), (h1, .inr (11, [.int (nI 1), .ref q, .int (nI 8), .int (nI 0), .int (nI 0), .int (nI 0), .int (nI 0), .long 0]))] H := hP
  have hD : va_D A [(od, .inl (kA 5, 1, .inr (.inr (.inr (.inl (fun _ => 0)))))), (h0, .inr (7, [.ref a, .int (nI 0), .int (nI 8), .int (nI 0), .int (nI 0), .int (nI 0), .int (nI 0)])), (a, .inl (kA 2, 4, .inr (.inr (.inr (.inr (fun _ => none)))))), (o, .inl (kA 4, 1, .inr (.inl (fun _ => 0)))), (q, .inr (1, [.int (nI 0), .ref z, .int (nI 0)])), (h1, .inr (11, [.int (nI 1), .ref q, .int (nI 8), .int (nI 0), .int (nI 0), .int (nI 0), .int (nI 0), .long 0]))] := hD
  refine lv_iload hx hb dL_law_1734 (lv_at hl 1 rfl) ?_
  refine lv_icmp_eq (tgt := 1741) hx hb dL_law_1736 (by decide) (fun _ => ?_) (fun c1736 => absurd (by decide) c1736)
  refine lv_iload hx hb dL_law_1741 (lv_at hl 1 rfl) ?_
  refine lv_if_ne (tgt := 1758) hx hb dL_law_1743 (by decide) (fun _ => ?_) (fun c1743 => absurd c1743 (by decide))
  refine lv_goto (tgt := 1775) hx hb dL_law_1758 (by decide) ?_
  subst hAe
  exact law_tail C0 hS (lv_sub hl [2, 7] rfl) (Nat.le_of_ble_eq_true rfl) (Nat.le_of_ble_eq_true rfl)

set_option maxHeartbeats 16000000 in
set_option maxRecDepth 100000 in
theorem law_case22 {p : Program} {e : Env} {s : State} {m : MethodId} {below : List Frame} {meth : Method} {c : Code} {l : Launch} {b : Nat} {xs : Nat → Int32} (hfl : l.stackTraces = false) (C0 : lw_At p s m meth c b 6 xs) (hts : ∀ w ∈ wq_law, w.before #[Value.ref b] s = true) {D : va_G} {kA : Nat → ClassId} {z : Nat} (hK : va_K D vwCl (tyL kA) s) (hG : gS z (fun q : Nat => s.heap.size ≤ q) s s.heap) {h0 a h1 q o od : Nat} {H : Heap} {locs : List Loc} {ls : Array Slot} (hP : va_P D vwCl [(h0, .inr (7, [.ref a, .int (nI 0), .int (nI 8), .int (nI 0), .int (nI 0), .int (nI 0), .int (nI 0)])), (a, .inl (kA 2, 4, .inr (.inr (.inr (.inr (fun _ => none)))))), (h1, .inr (11, [.int (nI 0), .ref q, .int (nI 8), .int (nI 0), .int (nI 0), .int (nI 0), .int (nI 0), .long 0])), (q, .inr (1, [.int (nI 0), .ref z, .int (nI 0)])), (o, .inl (kA 4, 1, .inr (.inl (fun _ => 0)))), (od, .inl (kA 5, 1, .inr (.inr (.inr (.inl (fun _ => 0))))))] H) (hD : va_D (fun q : Nat => s.heap.size ≤ q) [(h0, .inr (7, [.ref a, .int (nI 0), .int (nI 8), .int (nI 0), .int (nI 0), .int (nI 0), .int (nI 0)])), (a, .inl (kA 2, 4, .inr (.inr (.inr (.inr (fun _ => none)))))), (h1, .inr (11, [.int (nI 0), .ref q, .int (nI 8), .int (nI 0), .int (nI 0), .int (nI 0), .int (nI 0), .long 0])), (q, .inr (1, [.int (nI 0), .ref z, .int (nI 0)])), (o, .inl (kA 4, 1, .inr (.inl (fun _ => 0)))), (od, .inl (kA 5, 1, .inr (.inr (.inr (.inl (fun _ => 0))))))]) (hS : va_S (fun q : Nat => s.heap.size ≤ q) s.heap H locs) (hl : lv_has ls 9 [(5, .int (nI 0)), (4, .ref od), (3, .ref o), (2, .ref h1), (1, .ref h0), (0, .ref b)]) : W p l e room_1 s m #[Value.ref b] below meth c H locs 6 24 (lw_Z below #[Value.ref b] s) (F0 m 1761 ls []) := by
  obtain ⟨hx, hb, hr, hml, hown, hts0, hX, hbl, hlocks, hgv⟩ := id C0
  have hA : ∀ q : Nat, s.heap.size ≤ q → (fun q : Nat => s.heap.size ≤ q) q := fun _ h => h
  have hbA : ¬ (fun q : Nat => s.heap.size ≤ q) b := Nat.not_le.mpr hbl
  generalize hAe : (fun q : Nat => s.heap.size ≤ q) = A at hD hS hA hbA hG
  refine lv_aload_n hx hb dL_law_1761 rfl (lv_at hl 4 rfl) ?_
  have hF := va_free (wc := [(h0, .inr (7, [.ref a, .int (nI 0), .int (nI 8), .int (nI 0), .int (nI 0), .int (nI 0), .int (nI 0)])), (a, .inl (kA 2, 4, .inr (.inr (.inr (.inr (fun _ => none))))))]) hD hS hA [0, 1] rfl
  refine va_calll (va_runV (As := []) (rest := []) ⟨hx, hb, hml, hown, hts⟩ (c_X6_digest_e l D kA z h0 a  _) (cwV 0 hts h_law_51 rfl rfl rfl (by decide +kernel) ⟨Nat.le_of_ble_eq_true rfl, Nat.le_of_ble_eq_true rfl⟩) (fPv hK hP hD hS hG hF [0, 1] (by decide) rfl 0 7 rfl rfl rfl) rfl rfl hl.1 rfl (lv_room (Nat.le_of_ble_eq_true rfl)) dL_law_1762 ⟨Nat.le_of_ble_eq_true rfl, Nat.le_of_ble_eq_true rfl⟩) hS (fun q _ h => hF q h) hF (fun r_1 w1 t H locs ht hvm hw hB hz1 hk1 hS => ?_)
  obtain ⟨hP, hD⟩ := fJ (wr := [(h1, .inr (11, [.int (nI 0), .ref q, .int (nI 8), .int (nI 0), .int (nI 0), .int (nI 0), .int (nI 0), .long 0])), (q, .inr (1, [.int (nI 0), .ref z, .int (nI 0)])), (o, .inl (kA 4, 1, .inr (.inl (fun _ => 0)))), (od, .inl (kA 5, 1, .inr (.inr (.inr (.inl (fun _ => 0))))))]) hP hD [0, 1] [2, 3, 4, 5] rfl rfl (by decide) (by decide) hk1 hF ht hB
  try dsimp only at hw
  obtain ⟨rfl, e_1⟩ := hw
  replace e_1 := e_1.symm
  subst e_1
  have hP : va_P D vwCl [(h1, .inr (11, [.int (nI 0), .ref q, .int (nI 8), .int (nI 0), .int (nI 0), .int (nI 0), .int (nI 0), .long 0])), (q, .inr (1, [.int (nI 0), .ref z, .int (nI 0)])), (o, .inl (kA 4, 1, .inr (.inl (fun _ => 0)))), (od, .inl (kA 5, 1, .inr (.inr (.inr (.inl (fun _ => 0)))))), (h0, .inr (7, [.ref a, .int (nI 0), .int (nI 8), .int (nI 0), .int (nI 0), .int (nI 0), .int (nI 0)])), (a, .inl (kA 2, 4, .inr (.inr (.inr (.inr (fun _ => none))))))] H := hP
  have hD : va_D A [(h1, .inr (11, [.int (nI 0), .ref q, .int (nI 8), .int (nI 0), .int (nI 0), .int (nI 0), .int (nI 0), .long 0])), (q, .inr (1, [.int (nI 0), .ref z, .int (nI 0)])), (o, .inl (kA 4, 1, .inr (.inl (fun _ => 0)))), (od, .inl (kA 5, 1, .inr (.inr (.inr (.inl (fun _ => 0)))))), (h0, .inr (7, [.ref a, .int (nI 0), .int (nI 8), .int (nI 0), .int (nI 0), .int (nI 0), .int (nI 0)])), (a, .inl (kA 2, 4, .inr (.inr (.inr (.inr (fun _ => none))))))] := hD
  refine lv_aload_n hx hb dL_law_1765 rfl (lv_at hl 3 rfl) ?_
  have hF := va_free (wc := [(h1, .inr (11, [.int (nI 0), .ref q, .int (nI 8), .int (nI 0), .int (nI 0), .int (nI 0), .int (nI 0), .long 0])), (q, .inr (1, [.int (nI 0), .ref z, .int (nI 0)]))]) hD hS hA [0, 1] rfl
  refine va_calll (va_runV (As := []) (rest := [.long 264148837112919]) ⟨hx, hb, hml, hown, hts⟩ (c_X10_digest_e l D kA z h1 q (nI 0)  _) (cwV 0 hts h_law_52 rfl rfl rfl (by decide +kernel) ⟨Nat.le_of_ble_eq_true rfl, Nat.le_of_ble_eq_true rfl⟩) (fPv hK hP hD hS hG hF [0, 1] (by decide) rfl 0 11 rfl rfl rfl) rfl rfl hl.1 rfl (lv_room (Nat.le_of_ble_eq_true rfl)) dL_law_1766 ⟨Nat.le_of_ble_eq_true rfl, Nat.le_of_ble_eq_true rfl⟩) hS (fun q _ h => hF q h) hF (fun r_2 w1 t H locs ht hvm hw hB hz1 hk1 hS => ?_)
  obtain ⟨hP, hD⟩ := fJ (wr := [(o, .inl (kA 4, 1, .inr (.inl (fun _ => 0)))), (od, .inl (kA 5, 1, .inr (.inr (.inr (.inl (fun _ => 0)))))), (h0, .inr (7, [.ref a, .int (nI 0), .int (nI 8), .int (nI 0), .int (nI 0), .int (nI 0), .int (nI 0)])), (a, .inl (kA 2, 4, .inr (.inr (.inr (.inr (fun _ => none))))))]) hP hD [0, 1] [2, 3, 4, 5] rfl rfl (by decide) (by decide) hk1 hF ht hB
  try dsimp only at hw
  obtain ⟨sm_1, rfl, e_2⟩ := hw
  replace e_2 := e_2.symm
  subst e_2
  have hP : va_P D vwCl [(o, .inl (kA 4, 1, .inr (.inl (fun _ => 0)))), (od, .inl (kA 5, 1, .inr (.inr (.inr (.inl (fun _ => 0)))))), (h0, .inr (7, [.ref a, .int (nI 0), .int (nI 8), .int (nI 0), .int (nI 0), .int (nI 0), .int (nI 0)])), (a, .inl (kA 2, 4, .inr (.inr (.inr (.inr (fun _ => none)))))), (h1, .inr (11, [.int (nI 0), .ref q, .int (nI 8), .int (nI 0), .int (nI 0), .int (nI 0), .int (nI 0), .long sm_1])), (q, .inr (1, [.int (nI 0), .ref z, .int (nI 0)]))] H := hP
  have hD : va_D A [(o, .inl (kA 4, 1, .inr (.inl (fun _ => 0)))), (od, .inl (kA 5, 1, .inr (.inr (.inr (.inl (fun _ => 0)))))), (h0, .inr (7, [.ref a, .int (nI 0), .int (nI 8), .int (nI 0), .int (nI 0), .int (nI 0), .int (nI 0)])), (a, .inl (kA 2, 4, .inr (.inr (.inr (.inr (fun _ => none)))))), (h1, .inr (11, [.int (nI 0), .ref q, .int (nI 8), .int (nI 0), .int (nI 0), .int (nI 0), .int (nI 0), .long sm_1])), (q, .inr (1, [.int (nI 0), .ref z, .int (nI 0)]))] := hD
  refine W.lcmp hx hb dL_law_1769 ?_
  refine lv_if_eq (tgt := 1775) hx hb dL_law_1770 (by decide) (fun _ => ?_) (fun c1770 => absurd (lgs _) c1770)
  subst hAe
  exact law_tail C0 hS (lv_sub hl [0, 5] rfl) (Nat.le_of_ble_eq_true rfl) (Nat.le_of_ble_eq_true rfl)

set_option maxHeartbeats 16000000 in
set_option maxRecDepth 100000 in
theorem whole_start {p : Program} {e : Env} {s : State} {m : MethodId} {below : List Frame} {meth : Method} {c : Code} (l : Launch) (hflags : l.flags = flags0) {b L : Nat} {xs : Nat → Int32} (hL : L ≤ 6) (C0 : lw_At p s m meth c b L xs) : W p l e room_1 s m #[Value.ref b] below meth c s.heap [] 0 0 (lw_Z below #[Value.ref b] s) (entryFrame m ([Value.ref b] : List Value).toArray 9) := by
  obtain ⟨hx, hb, hr, hml, hown, hts0, hX, hbl, hlocks, hgv⟩ := id C0
  obtain ⟨D, kA, hK⟩ := st_K hts0
  obtain ⟨z, hG⟩ := st_G hts0 hgv
  have hfl : l.stackTraces = false := by
    show (!l.flags.contains noTraceFlag) = false
    rw [hflags]
    decide +kernel
  have hts : ∀ w ∈ wq_law, w.before #[Value.ref b] s = true := fun w h => hts0 w (tb_law w h)
  have hA : ∀ q : Nat, s.heap.size ≤ q → (fun q : Nat => s.heap.size ≤ q) q := fun _ h => h
  have hbA : ¬ (fun q : Nat => s.heap.size ≤ q) b := Nat.not_le.mpr hbl
  have hS : va_S (fun q : Nat => s.heap.size ≤ q) s.heap s.heap [] := va_S.rf
  have hP : va_P D vwCl [] s.heap := fun k q h => by simp at h
  have hD : va_D (fun q : Nat => s.heap.size ≤ q) [] := ⟨fun i j p q h => by simp at h, fun k q h => by simp at h⟩
  generalize hAe : (fun q : Nat => s.heap.size ≤ q) = A at hD hS hA hbA hG
  have hl := lv_entry ([.ref b]) (n := 9) (Nat.le_of_ble_eq_true rfl)
  rw [lg_entry_eq]
  generalize (lg_sl ([.ref b]) ++ List.replicate (9 - (lg_sl ([.ref b])).length) Slot.unset).toArray = ls at hl ⊢
  have hl : lv_has ls 9 [(0, .ref b)] := hl
  refine va_new (ci := 7) (fs := [.null, .int 0, .int 0, .int 0, .int 0, .int 0, .int 0]) (C := RX6) (T := TX6) (N := 7) hx hb hts n_law_X6 tyX6 tyX6_ok hown (wAt hts 122 (w := .classLink RL 8 RX6) rfl) (wAt hts 123 (w := .instantiable RX6 7) rfl) (wAt hts 118 (w := .initialized RX6) rfl) hK hP hD hS hA rfl (fun j hj => by rcases j with _ | _ | _ | _ | _ | _ | _ | _ <;> first | rfl | omega) (Nat.le_of_ble_eq_true rfl) (Nat.le_of_ble_eq_true rfl) dL_law_0 (fun q_1 H hP hD hS => ?_)
  have hP : va_P D vwCl [(q_1, .inr (7, [.null, .int 0, .int 0, .int 0, .int 0, .int 0, .int 0]))] H := hP
  have hD : va_D A [(q_1, .inr (7, [.null, .int 0, .int 0, .int 0, .int 0, .int 0, .int 0]))] := hD
  refine lv_dup hx hb dL_law_3 rfl ?_
  have hF := va_free (wc := [(q_1, .inr (7, [.null, .int 0, .int 0, .int 0, .int 0, .int 0, .int 0]))]) hD hS hA [0] rfl
  refine va_callv (va_runI (As := []) (rest := [.ref q_1]) ⟨hx, hb, hml, hown, hts⟩ (c_X6_init l D kA z q_1  _) (cwI 0 hts h_law_53 rfl rfl rfl (wAt hts 118 (w := .initialized RX6) rfl) (wAt hts 124 (w := .methodLink RL 89 yX6_init) rfl) (wAt hts 125 (w := .instanceMethod yX6_init) rfl) rfl (by decide +kernel) ⟨Nat.le_of_ble_eq_true rfl, Nat.le_of_ble_eq_true rfl⟩) (fPs hK hP hD hS hG hF [0] (by decide) rfl) rfl rfl hl.1 rfl (lv_room (Nat.le_of_ble_eq_true rfl)) dL_law_4 ⟨Nat.le_of_ble_eq_true rfl, Nat.le_of_ble_eq_true rfl⟩) hS (fun q _ h => hF q h) hF (fun w1 t H locs ht hvm hw hB hz1 hk1 hS => ?_)
  obtain ⟨hP, hD⟩ := fJ (wr := []) hP hD [0] [] rfl rfl (by decide) (by decide) hk1 hF ht hB
  try dsimp only at hw
  obtain ⟨a_1, rfl⟩ := hw
  have hP : va_P D vwCl [(q_1, .inr (7, [.ref a_1, .int (nI 0), .int (nI 8), .int (nI 0), .int (nI 0), .int (nI 0), .int (nI 0)])), (a_1, .inl (kA 2, 4, .inr (.inr (.inr (.inr (fun _ => none))))))] H := hP
  have hD : va_D A [(q_1, .inr (7, [.ref a_1, .int (nI 0), .int (nI 8), .int (nI 0), .int (nI 0), .int (nI 0), .int (nI 0)])), (a_1, .inl (kA 2, 4, .inr (.inr (.inr (.inr (fun _ => none))))))] := hD
  refine lv_astore_n (lv' := [(1, .ref q_1), (0, .ref b)]) hx hb dL_law_7 rfl hl (by decide) rfl (fun ls hl => ?_)
  refine va_new (ci := 11) (fs := [.int 0, .null, .int 0, .int 0, .int 0, .int 0, .int 0, .long 0]) (C := RX10) (T := TX10) (N := 8) hx hb hts n_law_X10 tyX10 tyX10_ok hown (wAt hts 126 (w := .classLink RL 90 RX10) rfl) (wAt hts 127 (w := .instantiable RX10 8) rfl) (wAt hts 6 (w := .initialized RX10) rfl) hK hP hD hS hA rfl (fun j hj => by rcases j with _ | _ | _ | _ | _ | _ | _ | _ | _ <;> first | rfl | omega) (Nat.le_of_ble_eq_true rfl) (Nat.le_of_ble_eq_true rfl) dL_law_8 (fun q_2 H hP hD hS => ?_)
  have hP : va_P D vwCl [(q_1, .inr (7, [.ref a_1, .int (nI 0), .int (nI 8), .int (nI 0), .int (nI 0), .int (nI 0), .int (nI 0)])), (a_1, .inl (kA 2, 4, .inr (.inr (.inr (.inr (fun _ => none)))))), (q_2, .inr (11, [.int 0, .null, .int 0, .int 0, .int 0, .int 0, .int 0, .long 0]))] H := hP
  have hD : va_D A [(q_1, .inr (7, [.ref a_1, .int (nI 0), .int (nI 8), .int (nI 0), .int (nI 0), .int (nI 0), .int (nI 0)])), (a_1, .inl (kA 2, 4, .inr (.inr (.inr (.inr (fun _ => none)))))), (q_2, .inr (11, [.int 0, .null, .int 0, .int 0, .int 0, .int 0, .int 0, .long 0]))] := hD
  refine lv_dup hx hb dL_law_11 rfl ?_
  have hF := va_free (wc := [(q_2, .inr (11, [.int 0, .null, .int 0, .int 0, .int 0, .int 0, .int 0, .long 0]))]) hD hS hA [2] rfl
  refine va_callv (va_runI (As := []) (rest := [.ref q_2]) ⟨hx, hb, hml, hown, hts⟩ (c_X10_init l D kA z q_2  _) (cwI 0 hts h_law_54 rfl rfl rfl (wAt hts 6 (w := .initialized RX10) rfl) (wAt hts 128 (w := .methodLink RL 92 yX10_init) rfl) (wAt hts 129 (w := .instanceMethod yX10_init) rfl) rfl (by decide +kernel) ⟨Nat.le_of_ble_eq_true rfl, Nat.le_of_ble_eq_true rfl⟩) (fPs hK hP hD hS hG hF [2] (by decide) rfl) rfl rfl hl.1 rfl (lv_room (Nat.le_of_ble_eq_true rfl)) dL_law_12 ⟨Nat.le_of_ble_eq_true rfl, Nat.le_of_ble_eq_true rfl⟩) hS (fun q _ h => hF q h) hF (fun w1 t H locs ht hvm hw hB hz1 hk1 hS => ?_)
  obtain ⟨hP, hD⟩ := fJ (wr := [(q_1, .inr (7, [.ref a_1, .int (nI 0), .int (nI 8), .int (nI 0), .int (nI 0), .int (nI 0), .int (nI 0)])), (a_1, .inl (kA 2, 4, .inr (.inr (.inr (.inr (fun _ => none))))))]) hP hD [2] [0, 1] rfl rfl (by decide) (by decide) hk1 hF ht hB
  try dsimp only at hw
  obtain ⟨q_3, rfl⟩ := hw
  have hP : va_P D vwCl [(q_1, .inr (7, [.ref a_1, .int (nI 0), .int (nI 8), .int (nI 0), .int (nI 0), .int (nI 0), .int (nI 0)])), (a_1, .inl (kA 2, 4, .inr (.inr (.inr (.inr (fun _ => none)))))), (q_2, .inr (11, [.int (nI 0), .ref q_3, .int (nI 8), .int (nI 0), .int (nI 0), .int (nI 0), .int (nI 0), .long 0])), (q_3, .inr (1, [.int (nI 0), .ref z, .int (nI 0)]))] H := hP
  have hD : va_D A [(q_1, .inr (7, [.ref a_1, .int (nI 0), .int (nI 8), .int (nI 0), .int (nI 0), .int (nI 0), .int (nI 0)])), (a_1, .inl (kA 2, 4, .inr (.inr (.inr (.inr (fun _ => none)))))), (q_2, .inr (11, [.int (nI 0), .ref q_3, .int (nI 8), .int (nI 0), .int (nI 0), .int (nI 0), .int (nI 0), .long 0])), (q_3, .inr (1, [.int (nI 0), .ref z, .int (nI 0)]))] := hD
  refine lv_astore_n (lv' := [(2, .ref q_2), (1, .ref q_1), (0, .ref b)]) hx hb dL_law_15 rfl hl (by decide) rfl (fun ls hl => ?_)
  refine lv_iconst (v := nI 1) hx hb dL_law_16 (by decide) ?_
  refine va_newa (atype := .long) (ty := .long) (N' := 1) (a0 := (1, .inr (.inl (fun _ => 0)))) hx hb (wAt hts 130 (w := .arrayClass .long) rfl) rfl hK hP hD hS hA (fun _ => rfl) (nI_pos (n := 1) (by decide)) (nI_clamp (n := 1) (by decide)) (by decide) (Nat.le_of_ble_eq_true rfl) (Nat.le_of_ble_eq_true rfl) dL_law_17 (fun q_4 cA H hK hP hD hS => ?_)
  obtain rfl : cA = kA 4 := tyEq hK 6 4 rfl rfl
  have hK : va_K D vwCl (tyL kA) s := hK.sub [0, 1, 2, 3, 4, 5] rfl
  have hP : va_P D vwCl [(q_1, .inr (7, [.ref a_1, .int (nI 0), .int (nI 8), .int (nI 0), .int (nI 0), .int (nI 0), .int (nI 0)])), (a_1, .inl (kA 2, 4, .inr (.inr (.inr (.inr (fun _ => none)))))), (q_2, .inr (11, [.int (nI 0), .ref q_3, .int (nI 8), .int (nI 0), .int (nI 0), .int (nI 0), .int (nI 0), .long 0])), (q_3, .inr (1, [.int (nI 0), .ref z, .int (nI 0)])), (q_4, .inl (kA 4, 1, .inr (.inl (fun _ => 0))))] H := hP
  have hD : va_D A [(q_1, .inr (7, [.ref a_1, .int (nI 0), .int (nI 8), .int (nI 0), .int (nI 0), .int (nI 0), .int (nI 0)])), (a_1, .inl (kA 2, 4, .inr (.inr (.inr (.inr (fun _ => none)))))), (q_2, .inr (11, [.int (nI 0), .ref q_3, .int (nI 8), .int (nI 0), .int (nI 0), .int (nI 0), .int (nI 0), .long 0])), (q_3, .inr (1, [.int (nI 0), .ref z, .int (nI 0)])), (q_4, .inl (kA 4, 1, .inr (.inl (fun _ => 0))))] := hD
  refine lv_astore_n (lv' := [(3, .ref q_4), (2, .ref q_2), (1, .ref q_1), (0, .ref b)]) hx hb dL_law_19 rfl hl (by decide) rfl (fun ls hl => ?_)
  refine lv_iconst (v := nI 1) hx hb dL_law_20 (by decide) ?_
  refine va_newa (atype := .double) (ty := .double) (N' := 1) (a0 := (1, .inr (.inr (.inr (.inl (fun _ => 0)))))) hx hb (wAt hts 131 (w := .arrayClass .double) rfl) rfl hK hP hD hS hA (fun _ => rfl) (nI_pos (n := 1) (by decide)) (nI_clamp (n := 1) (by decide)) (by decide) (Nat.le_of_ble_eq_true rfl) (Nat.le_of_ble_eq_true rfl) dL_law_21 (fun q_5 cA H hK hP hD hS => ?_)
  obtain rfl : cA = kA 5 := tyEq hK 6 5 rfl rfl
  have hK : va_K D vwCl (tyL kA) s := hK.sub [0, 1, 2, 3, 4, 5] rfl
  have hP : va_P D vwCl [(q_1, .inr (7, [.ref a_1, .int (nI 0), .int (nI 8), .int (nI 0), .int (nI 0), .int (nI 0), .int (nI 0)])), (a_1, .inl (kA 2, 4, .inr (.inr (.inr (.inr (fun _ => none)))))), (q_2, .inr (11, [.int (nI 0), .ref q_3, .int (nI 8), .int (nI 0), .int (nI 0), .int (nI 0), .int (nI 0), .long 0])), (q_3, .inr (1, [.int (nI 0), .ref z, .int (nI 0)])), (q_4, .inl (kA 4, 1, .inr (.inl (fun _ => 0)))), (q_5, .inl (kA 5, 1, .inr (.inr (.inr (.inl (fun _ => 0))))))] H := hP
  have hD : va_D A [(q_1, .inr (7, [.ref a_1, .int (nI 0), .int (nI 8), .int (nI 0), .int (nI 0), .int (nI 0), .int (nI 0)])), (a_1, .inl (kA 2, 4, .inr (.inr (.inr (.inr (fun _ => none)))))), (q_2, .inr (11, [.int (nI 0), .ref q_3, .int (nI 8), .int (nI 0), .int (nI 0), .int (nI 0), .int (nI 0), .long 0])), (q_3, .inr (1, [.int (nI 0), .ref z, .int (nI 0)])), (q_4, .inl (kA 4, 1, .inr (.inl (fun _ => 0)))), (q_5, .inl (kA 5, 1, .inr (.inr (.inr (.inl (fun _ => 0))))))] := hD
  refine lv_astore (lv' := [(4, .ref q_5), (3, .ref q_4), (2, .ref q_2), (1, .ref q_1), (0, .ref b)]) hx hb dL_law_23 hl (by decide) rfl (fun ls hl => ?_)
  refine lv_iconst (v := nI 0) hx hb dL_law_25 (by decide) ?_
  refine lv_istore (lv' := [(5, .int (nI 0)), (4, .ref q_5), (3, .ref q_4), (2, .ref q_2), (1, .ref q_1), (0, .ref b)]) hx hb dL_law_26 hl (by decide) rfl (fun ls hl => ?_)
  rcases Nat.lt_or_ge L 6 with hL6 | hL6
  · subst hAe; exact law_short C0 hL6 hS (lv_sub hl [0, 5] rfl) (Nat.le_of_ble_eq_true rfl) (Nat.le_of_ble_eq_true rfl)
  obtain rfl : L = 6 := by omega
  refine lv_iload hx hb dL_law_28 (lv_at hl 0 rfl) ?_
  refine lv_aload_n hx hb dL_law_30 rfl (lv_at hl 5 rfl) ?_
  refine va_slen hx hb hX hbl hbA hS dL_law_31 ?_
  refine W.eq (g2 := F0 m 32 ls [.int (nI 6), .int (nI 0)]) rfl ?_
  refine lv_bipush (v := nI 6) hx hb dL_law_32 (by decide) ?_
  refine lv_isub hx hb dL_law_34 ?_
  rw [show nI 6 - nI 6 = nI 0 from by decide]
  refine lv_icmp_gt (tgt := 1781) hx hb dL_law_35 (by decide) (fun c35 => absurd c35 (by decide)) (fun _ => ?_)
  refine lv_aload_n hx hb dL_law_38 rfl (lv_at hl 5 rfl) ?_
  refine lv_iload hx hb dL_law_39 (lv_at hl 0 rfl) ?_
  refine va_sld hx hb hX hbl hbA hS (vp_in_nI (n := 0) (by decide) (by decide)) dL_law_41 ?_
  rw [nI_clamp (n := 0) (by decide)]
  refine lv_bipush (v := nI 31) hx hb dL_law_42 (by decide) ?_
  refine lv_iand hx hb dL_law_44 ?_
  obtain ⟨j9, hj9, ej9⟩ := pk_andE (xs 0) (m := nI 31) 5 (by decide)
  rw [ej9]
  subst hAe
  by_cases hj : j9 < 23
  · rcases (show j9 = 0 ∨ j9 = 1 ∨ j9 = 2 ∨ j9 = 3 ∨ j9 = 4 ∨ j9 = 5 ∨ j9 = 6 ∨ j9 = 7 ∨ j9 = 8 ∨ j9 = 9 ∨ j9 = 10 ∨ j9 = 11 ∨ j9 = 12 ∨ j9 = 13 ∨ j9 = 14 ∨ j9 = 15 ∨ j9 = 16 ∨ j9 = 17 ∨ j9 = 18 ∨ j9 = 19 ∨ j9 = 20 ∨ j9 = 21 ∨ j9 = 22 by omega) with rfl | rfl | rfl | rfl | rfl | rfl | rfl | rfl | rfl | rfl | rfl | rfl | rfl | rfl | rfl | rfl | rfl | rfl | rfl | rfl | rfl | rfl | rfl
    · refine lv_tableIn (off := 107) (tgt := 152) hx hb dL_law_45 (by decide) (by decide) (by decide) (by decide) ?_
      refine W.widen (k := 6) (n := 24) (Nat.le_of_ble_eq_true rfl) (Nat.le_of_ble_eq_true rfl) ?_
      exact law_case0 hfl C0 hts hK hG hP hD hS (lv_sub hl [0, 1, 2, 3, 4, 5] rfl)
    · refine lv_tableIn (off := 163) (tgt := 208) hx hb dL_law_45 (by decide) (by decide) (by decide) (by decide) ?_
      refine W.widen (k := 6) (n := 24) (Nat.le_of_ble_eq_true rfl) (Nat.le_of_ble_eq_true rfl) ?_
      exact law_case1 hfl C0 hts hK hG hP hD hS (lv_sub hl [0, 1, 2, 3, 4, 5] rfl)
    · refine lv_tableIn (off := 219) (tgt := 264) hx hb dL_law_45 (by decide) (by decide) (by decide) (by decide) ?_
      refine W.widen (k := 6) (n := 24) (Nat.le_of_ble_eq_true rfl) (Nat.le_of_ble_eq_true rfl) ?_
      exact law_case2 hfl C0 hts hK hG hP hD hS (lv_sub hl [0, 1, 2, 3, 4, 5] rfl)
    · refine lv_tableIn (off := 287) (tgt := 332) hx hb dL_law_45 (by decide) (by decide) (by decide) (by decide) ?_
      refine W.widen (k := 6) (n := 24) (Nat.le_of_ble_eq_true rfl) (Nat.le_of_ble_eq_true rfl) ?_
      exact law_case3 hfl C0 hts hK hG hP hD hS (lv_sub hl [0, 1, 2, 3, 4, 5] rfl)
    · refine lv_tableIn (off := 343) (tgt := 388) hx hb dL_law_45 (by decide) (by decide) (by decide) (by decide) ?_
      refine W.widen (k := 6) (n := 24) (Nat.le_of_ble_eq_true rfl) (Nat.le_of_ble_eq_true rfl) ?_
      exact law_case4 hfl C0 hts hK hG hP hD hS (lv_sub hl [0, 1, 2, 3, 4, 5] rfl)
    · refine lv_tableIn (off := 463) (tgt := 508) hx hb dL_law_45 (by decide) (by decide) (by decide) (by decide) ?_
      refine W.widen (k := 6) (n := 24) (Nat.le_of_ble_eq_true rfl) (Nat.le_of_ble_eq_true rfl) ?_
      exact law_case5 hfl C0 hts hK hG hP hD hS (lv_sub hl [0, 1, 2, 3, 4, 5] rfl)
    · refine lv_tableIn (off := 566) (tgt := 611) hx hb dL_law_45 (by decide) (by decide) (by decide) (by decide) ?_
      refine W.widen (k := 6) (n := 24) (Nat.le_of_ble_eq_true rfl) (Nat.le_of_ble_eq_true rfl) ?_
      exact law_case6 hfl C0 hts hK hG hP hD hS (lv_sub hl [0, 1, 2, 3, 4, 5] rfl)
    · refine lv_tableIn (off := 646) (tgt := 691) hx hb dL_law_45 (by decide) (by decide) (by decide) (by decide) ?_
      refine W.widen (k := 6) (n := 24) (Nat.le_of_ble_eq_true rfl) (Nat.le_of_ble_eq_true rfl) ?_
      exact law_case7 hfl C0 hts hK hG hP hD hS (lv_sub hl [0, 1, 2, 3, 4, 5] rfl)
    · refine lv_tableIn (off := 702) (tgt := 747) hx hb dL_law_45 (by decide) (by decide) (by decide) (by decide) ?_
      refine W.widen (k := 6) (n := 24) (Nat.le_of_ble_eq_true rfl) (Nat.le_of_ble_eq_true rfl) ?_
      exact law_case8 hfl C0 hts hK hG hP hD hS (lv_sub hl [0, 1, 2, 3, 4, 5] rfl)
    · refine lv_tableIn (off := 758) (tgt := 803) hx hb dL_law_45 (by decide) (by decide) (by decide) (by decide) ?_
      refine W.widen (k := 6) (n := 24) (Nat.le_of_ble_eq_true rfl) (Nat.le_of_ble_eq_true rfl) ?_
      exact law_case9 hfl C0 hts hK hG hP hD hS (lv_sub hl [0, 1, 2, 3, 4, 5] rfl)
    · refine lv_tableIn (off := 854) (tgt := 899) hx hb dL_law_45 (by decide) (by decide) (by decide) (by decide) ?_
      refine W.widen (k := 6) (n := 24) (Nat.le_of_ble_eq_true rfl) (Nat.le_of_ble_eq_true rfl) ?_
      exact law_case10 hfl C0 hts hK hG hP hD hS (lv_sub hl [0, 1, 2, 3, 4, 5] rfl)
    · refine lv_tableIn (off := 934) (tgt := 979) hx hb dL_law_45 (by decide) (by decide) (by decide) (by decide) ?_
      refine W.widen (k := 6) (n := 24) (Nat.le_of_ble_eq_true rfl) (Nat.le_of_ble_eq_true rfl) ?_
      exact law_case11 hfl C0 hts hK hG hP hD hS (lv_sub hl [0, 1, 2, 3, 4, 5] rfl)
    · refine lv_tableIn (off := 1002) (tgt := 1047) hx hb dL_law_45 (by decide) (by decide) (by decide) (by decide) ?_
      refine W.widen (k := 6) (n := 24) (Nat.le_of_ble_eq_true rfl) (Nat.le_of_ble_eq_true rfl) ?_
      exact law_case12 hfl C0 hts hK hG hP hD hS (lv_sub hl [0, 1, 2, 3, 4, 5] rfl)
    · refine lv_tableIn (off := 1070) (tgt := 1115) hx hb dL_law_45 (by decide) (by decide) (by decide) (by decide) ?_
      refine W.widen (k := 6) (n := 24) (Nat.le_of_ble_eq_true rfl) (Nat.le_of_ble_eq_true rfl) ?_
      exact law_case13 hfl C0 hts hK hG hP hD hS (lv_sub hl [0, 1, 2, 3, 4, 5] rfl)
    · refine lv_tableIn (off := 1166) (tgt := 1211) hx hb dL_law_45 (by decide) (by decide) (by decide) (by decide) ?_
      refine W.widen (k := 6) (n := 24) (Nat.le_of_ble_eq_true rfl) (Nat.le_of_ble_eq_true rfl) ?_
      exact law_case14 hfl C0 hts hK hG hP hD hS (lv_sub hl [0, 1, 2, 3, 4, 5] rfl)
    · refine lv_tableIn (off := 1255) (tgt := 1300) hx hb dL_law_45 (by decide) (by decide) (by decide) (by decide) ?_
      refine W.widen (k := 6) (n := 24) (Nat.le_of_ble_eq_true rfl) (Nat.le_of_ble_eq_true rfl) ?_
      exact law_case15 hfl C0 hts hK hG hP hD hS (lv_sub hl [0, 1, 2, 3, 4, 5] rfl)
    · refine lv_tableIn (off := 1335) (tgt := 1380) hx hb dL_law_45 (by decide) (by decide) (by decide) (by decide) ?_
      refine W.widen (k := 6) (n := 24) (Nat.le_of_ble_eq_true rfl) (Nat.le_of_ble_eq_true rfl) ?_
      exact law_case16 hfl C0 hts hK hG hP hD hS (lv_sub hl [0, 1, 2, 3, 4, 5] rfl)
    · refine lv_tableIn (off := 1403) (tgt := 1448) hx hb dL_law_45 (by decide) (by decide) (by decide) (by decide) ?_
      refine W.widen (k := 6) (n := 24) (Nat.le_of_ble_eq_true rfl) (Nat.le_of_ble_eq_true rfl) ?_
      exact law_case17 hfl C0 hts hK hG hP hD hS (lv_sub hl [0, 1, 2, 3, 4, 5] rfl)
    · refine lv_tableIn (off := 1459) (tgt := 1504) hx hb dL_law_45 (by decide) (by decide) (by decide) (by decide) ?_
      refine W.widen (k := 6) (n := 24) (Nat.le_of_ble_eq_true rfl) (Nat.le_of_ble_eq_true rfl) ?_
      exact law_case18 hfl C0 hts hK hG hP hD hS (lv_sub hl [0, 1, 2, 3, 4, 5] rfl)
    · refine lv_tableIn (off := 1536) (tgt := 1581) hx hb dL_law_45 (by decide) (by decide) (by decide) (by decide) ?_
      refine W.widen (k := 6) (n := 24) (Nat.le_of_ble_eq_true rfl) (Nat.le_of_ble_eq_true rfl) ?_
      exact law_case19 hfl C0 hts hK hG hP hD hS (lv_sub hl [0, 1, 2, 3, 4, 5] rfl)
    · refine lv_tableIn (off := 1592) (tgt := 1637) hx hb dL_law_45 (by decide) (by decide) (by decide) (by decide) ?_
      refine W.widen (k := 6) (n := 24) (Nat.le_of_ble_eq_true rfl) (Nat.le_of_ble_eq_true rfl) ?_
      exact law_case20 hfl C0 hts hK hG hP hD hS (lv_sub hl [0, 1, 2, 3, 4, 5] rfl)
    · refine lv_tableIn (off := 1648) (tgt := 1693) hx hb dL_law_45 (by decide) (by decide) (by decide) (by decide) ?_
      refine W.widen (k := 6) (n := 24) (Nat.le_of_ble_eq_true rfl) (Nat.le_of_ble_eq_true rfl) ?_
      exact law_case21 hfl C0 hts hK hG hP hD hS (lv_sub hl [0, 1, 2, 3, 4, 5] rfl)
    · refine lv_tableIn (off := 1716) (tgt := 1761) hx hb dL_law_45 (by decide) (by decide) (by decide) (by decide) ?_
      refine W.widen (k := 6) (n := 24) (Nat.le_of_ble_eq_true rfl) (Nat.le_of_ble_eq_true rfl) ?_
      exact law_case22 hfl C0 hts hK hG hP hD hS (lv_sub hl [0, 1, 2, 3, 4, 5] rfl)
  · refine lv_tableOut (tgt := 1775) hx hb dL_law_45 (Or.inr (by rw [nI_toInt (by omega)]; omega)) (by decide) ?_
    exact law_tail C0 hS (lv_sub hl [0, 5] rfl) (Nat.le_of_ble_eq_true rfl) (Nat.le_of_ble_eq_true rfl)

