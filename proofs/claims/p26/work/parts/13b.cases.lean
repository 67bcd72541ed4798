set_option maxHeartbeats 4000000 in
set_option maxRecDepth 100000 in
theorem cL_end (l : Launch) (D : va_G) (kA : Nat → ClassId) (z : Nat) (hfl : l.stackTraces = false) {p : Program} {e : Env} {s : State} {m : MethodId} {args : Array Value} {below : List Frame} {meth : Method} {c : Code} {A : Nat → Prop} {ls0 : Array Slot} (hE : fE p s m args meth c D (tyL kA) z wq_L_law RL cL_law 16 (some .boolean) [.ref z] [] A ls0) (hargs : args = #[Value.ref z]) (hA2 : ∀ q : Nat, A q → s.heap.size ≤ q) (ra_1 : Nat) (ti : Nat) (B : BS) (m4 : Nat) (m5 : Nat) (m6 : Nat) (hti : ti ≤ 40) (hbe : B.2 0 = ra_1) (hL : LI B (ti + 4))  (H : Heap) (locs : List Loc) (ls : Array Slot) (hP : va_P D vwCl (wB kA B) H) (hD : va_D A (wB kA B)) (hS : va_S A s.heap H locs) (hl : lv_has ls 16 [(5, .int (nI ti)), (4, .int (nI m6)), (3, .int (nI m5)), (2, .int (nI m4)), (1, .ref ra_1), (0, .ref z)]) : W p l e room_1 s m args below meth c H locs 150 14160 (lw_Z below args s) (F0 m 1167 ls []) := by
  obtain ⟨hx, hb, hr, hml, hts, hown, hlocks, hA, -, -, hK, -, hG, -⟩ := hE
  have hH : s.heap = s.heap := rfl
  have hI := hL.1
  have hl42 := hL.2.2.1
  refine lv_aload_n hx hb dL_law_1167 rfl (lv_at hl 4 rfl) ?_
  have hF := chF [] hD hS hA
  refine va_calll (va_runV (As := []) (rest := []) ⟨hx, hb, hml, hown, hts⟩ (c_X6_digest_B l D kA z B ra_1 (by first | assumption | omega) (by first | assumption | omega) _) (cwV 0 hts h_L_law_4 rfl rfl rfl (by decide +kernel) ⟨Nat.le_of_ble_eq_true rfl, Nat.le_of_ble_eq_true rfl⟩) (fPvB [] (hbe) hK hP hD hS hG hF) rfl rfl hl.1 rfl (lv_room (Nat.le_of_ble_eq_true rfl)) dL_law_1168 ⟨Nat.le_of_ble_eq_true rfl, Nat.le_of_ble_eq_true rfl⟩) hS (fun q _ h => hF q h) hF (fun r_4 w1 t H locs ht hvm hw hB hz1 hk1 hS => ?_)
  obtain ⟨hP, hD⟩ := chJ [] hP hD hk1 hF ht hB
  try dsimp only at hw
  obtain ⟨rfl, e_4⟩ := hw
  have hP : va_P D vwCl (wB kA B) H := hP
  have hD : va_D A (wB kA B) := hD
  have hd1 := e_4
  refine lv_lstore (lv' := [(5, .long r_4), (4, .int (nI m6)), (3, .int (nI m5)), (2, .int (nI m4)), (1, .ref ra_1), (0, .ref z)]) hx hb dL_law_1171 hl (by decide) rfl (fun ls hl => ?_)
  refine lv_aload_n hx hb dL_law_1173 rfl (lv_at hl 4 rfl) ?_
  refine lv_iconst (v := nI 0) hx hb dL_law_1174 (by decide) ?_
  have hF := chF [] hD hS hA
  refine va_calli (va_runS (As := [.ref ra_1, .int (nI 0)]) (rest := []) ⟨hx, hb, hml, hown, hts⟩ (c_L_isSo l D kA z B ra_1 0 (by first | assumption | omega) (by first | assumption | omega) (by first | assumption | omega) (by have := hL.2.1 0 (by decide); omega) _) (va_cwS 2 hts h_L_law_5 rfl rfl rfl (by decide +kernel) ⟨Nat.le_of_ble_eq_true rfl, Nat.le_of_ble_eq_true rfl⟩) (fPsB [] hK hP hD hS hG hF) rfl rfl hl.1 rfl (lv_room (Nat.le_of_ble_eq_true rfl)) dL_law_1175 ⟨Nat.le_of_ble_eq_true rfl, Nat.le_of_ble_eq_true rfl⟩) hS (fun q _ h => hF q h) hF (fun r_5 w1 t H locs ht hvm hw hB hz1 hk1 hS => ?_)
  obtain ⟨hP, hD⟩ := chJ [] hP hD hk1 hF ht hB
  try dsimp only at hw
  obtain ⟨rfl, e_5⟩ := hw
  replace e_5 := e_5.symm
  subst e_5
  have hP : va_P D vwCl (wB kA B) H := hP
  have hD : va_D A (wB kA B) := hD
  refine lv_if_eq (tgt := 1195) hx hb dL_law_1178 (by decide) (fun c1178 => absurd c1178 (by decide)) (fun _ => ?_)
  refine lv_aload_n hx hb dL_law_1181 rfl (lv_at hl 4 rfl) ?_
  have hF := chF [] hD hS hA
  refine va_calll (va_runV (As := []) (rest := []) ⟨hx, hb, hml, hown, hts⟩ (c_X6_digest_B l D kA z B ra_1 (by first | assumption | omega) (by first | assumption | omega) _) (cwV 0 hts h_L_law_4 rfl rfl rfl (by decide +kernel) ⟨Nat.le_of_ble_eq_true rfl, Nat.le_of_ble_eq_true rfl⟩) (fPvB [] (hbe) hK hP hD hS hG hF) rfl rfl hl.1 rfl (lv_room (Nat.le_of_ble_eq_true rfl)) dL_law_1182 ⟨Nat.le_of_ble_eq_true rfl, Nat.le_of_ble_eq_true rfl⟩) hS (fun q _ h => hF q h) hF (fun r_6 w1 t H locs ht hvm hw hB hz1 hk1 hS => ?_)
  obtain ⟨hP, hD⟩ := chJ [] hP hD hk1 hF ht hB
  try dsimp only at hw
  obtain ⟨rfl, e_6⟩ := hw
  have hP : va_P D vwCl (wB kA B) H := hP
  have hD : va_D A (wB kA B) := hD
  have hd2 := e_6
  refine lv_lload hx hb dL_law_1185 (lv_at hl 0 rfl) ?_
  refine W.lcmp hx hb dL_law_1187 ?_
  refine W.eq (g2 := F0 m 1188 ls [.int (nI 0)]) (by rw [show lg_cmp r_6 r_4 = nI 0 from by rw [hd1, hd2]; exact lg_self _]) ?_
  refine lv_if_ne (tgt := 1195) hx hb dL_law_1188 (by decide) (fun c1188 => absurd (by decide) c1188) (fun _ => ?_)
  refine lv_iconst (v := nI 1) hx hb dL_law_1191 (by decide) ?_
  refine lv_goto (tgt := 1196) hx hb dL_law_1192 (by decide) ?_
  refine va_forget (fun q hq => hA2 _ (hS.2.2 q hq)) ?_
  refine W.widen (k := 600086) (n := 7301442) (Nat.le_of_ble_eq_true rfl) (Nat.le_of_ble_eq_true rfl) ?_
  refine W.eq (g2 := F0 m 1196 ls [.int 1]) (by rw [show nI 1 = 1 from by decide]) ?_
  subst hargs
  exact lw_ret (d0 := s.drawn) (Drawn.sameBut.refl s.drawn lw_cs) hx hb hr hlocks dL_law_1196
set_option maxHeartbeats 4000000 in
set_option maxRecDepth 100000 in
theorem cL_meet (l : Launch) (D : va_G) (kA : Nat → ClassId) (z : Nat) (hfl : l.stackTraces = false) {p : Program} {e : Env} {s : State} {m : MethodId} {args : Array Value} {below : List Frame} {meth : Method} {c : Code} {A : Nat → Prop} {ls0 : Array Slot} (hE : fE p s m args meth c D (tyL kA) z wq_L_law RL cL_law 16 (some .boolean) [.ref z] [] A ls0) (hargs : args = #[Value.ref z]) (hA2 : ∀ q : Nat, A q → s.heap.size ≤ q) (n_29 : Nat) (ti : Nat) (ra_1 : Nat) (q_1 : Nat) (B9 : BS) (fr9 : Nat → Int32) (d9 : Nat) (m49 : Nat) (m59 : Nat) (m69 : Nat) (hti4 : ti < 40) (hm_29 : 40 - ti < n_29 + 1) (hbe9 : B9.2 0 = ra_1) (hL9 : LI B9 (ti + 5)) (hfr9 : ∀ q, q < 4 → fr9 q = nI (nn (B9.1 q) 5)) (hd9 : d9 = B9.2 3) (hm49 : m49 = B9.2 4) (hm59 : m59 = B9.2 5) (hm69 : m69 = B9.2 6) (ih_29 : ∀ (ti : Nat) (B : BS) (m4 : Nat) (m5 : Nat) (m6 : Nat), 40 - ti < n_29 → (ti ≤ 40) → (B.2 0 = ra_1) → (LI B (ti + 4)) → (m4 = B.2 4) → (m5 = B.2 5) → (m6 = B.2 6) → ∀ (H : Heap) (locs : List Loc) (ls : Array Slot), va_P D vwCl (wB kA B) H → va_D A (wB kA B) → va_S A s.heap H locs → lv_has ls 16 [(5, .int (nI ti)), (4, .int (nI m6)), (3, .int (nI m5)), (2, .int (nI m4)), (1, .ref ra_1), (0, .ref z)] → W p l e room_1 s m args below meth c H locs (110 + ti) (14000 + 4 * ti) (lw_Z below args s) (F0 m 29 ls [])) (H : Heap) (locs : List Loc) (ls : Array Slot) (hP : va_P D vwCl ([(q_1, .inl (kA 0, 4, .inl fr9))] ++ wB kA B9) H) (hD : va_D A ([(q_1, .inl (kA 0, 4, .inl fr9))] ++ wB kA B9)) (hS : va_S A s.heap H locs) (hl : lv_has ls 16 [(10, .int (nI d9)), (4, .int (nI m69)), (3, .int (nI m59)), (2, .int (nI m49)), (12, .ref q_1), (5, .int (nI ti)), (1, .ref ra_1), (0, .ref z)]) : W p l e room_1 s m args below meth c H locs (110 + ti + 1) (14000 + 4 * ti + 4) (lw_Z below args s) (F0 m 1067 ls []) := by
  obtain ⟨hx, hb, hr, hml, hts, hown, hlocks, hA, -, -, hK, -, hG, -⟩ := hE
  have hH : s.heap = s.heap := rfl
  have hbe := hbe9
  have hL := hL9
  have hI := hL9.1
  have hd15 := hI.2.2.2
  have hl4 := hL9.2.2.1
  have hl5 := hL9.2.2.2.1
  have hl6 := hL9.2.2.2.2
  refine lv_aload_n hx hb dL_law_1067 rfl (lv_at hl 6 rfl) ?_
  refine lv_iconst (v := nI 2) hx hb dL_law_1068 (by decide) ?_
  have hF := chF [(q_1, .inl (kA 0, 4, .inl fr9))] hD hS hA
  refine va_calli (va_runV (As := [.int (nI 2)]) (rest := []) ⟨hx, hb, hml, hown, hts⟩ (c_X6_many_B2 l D kA z B9 ra_1 (by first | assumption | omega) (by first | assumption | omega) _) (cwV 1 hts h_L_law_8 rfl rfl rfl (by decide +kernel) ⟨Nat.le_of_ble_eq_true rfl, Nat.le_of_ble_eq_true rfl⟩) (fPvB [(q_1, .inl (kA 0, 4, .inl fr9))] (hbe) hK hP hD hS hG hF) rfl rfl hl.1 rfl (lv_room (Nat.le_of_ble_eq_true rfl)) dL_law_1069 ⟨(Nat.le_trans (Nat.add_le_add_right (show 110 + ti + 1 ≤ 600086 by omega) _) (Nat.le_of_ble_eq_true rfl)), (Nat.le_trans (Nat.add_le_add_right (show 14000 + 4 * ti + 4 ≤ 7301442 by omega) _) (Nat.le_of_ble_eq_true rfl))⟩) hS (fun q _ h => hF q h) hF (fun r_18 w1 t H locs ht hvm hw hB hz1 hk1 hS => ?_)
  obtain ⟨hP, hD⟩ := chJ [(q_1, .inl (kA 0, 4, .inl fr9))] hP hD hk1 hF ht hB
  try dsimp only at hw
  obtain ⟨rfl, e_18⟩ := hw
  replace e_18 := e_18.symm
  subst e_18
  have hP : va_P D vwCl ([(q_1, .inl (kA 0, 4, .inl fr9))] ++ wB kA B9) H := hP
  have hD : va_D A ([(q_1, .inl (kA 0, 4, .inl fr9))] ++ wB kA B9) := hD
  refine lv_iload hx hb dL_law_1072 (lv_at hl 0 rfl) ?_
  refine lv_icmp_ne (tgt := 1118) hx hb dL_law_1074 (by decide) (fun c1074 => False.elim (by rw [qeq (a := (B9.2 3)) (b := d9) (by omega) (by omega)] at c1074; omega)) (fun _ => ?_)
  refine lv_iload hx hb dL_law_1077 (lv_at hl 0 rfl) ?_
  refine lv_if_lt (tgt := 1118) hx hb dL_law_1079 (by decide) (fun c1079 => absurd c1079 (nI_pos (n := d9) (by omega))) (fun _ => ?_)
  refine lv_iload hx hb dL_law_1082 (lv_at hl 0 rfl) ?_
  refine lv_bipush (v := nI 15) hx hb dL_law_1084 (by decide) ?_
  refine lv_icmp_gt (tgt := 1118) hx hb dL_law_1086 (by decide) (fun c1086 => False.elim (by rw [qlt (a := 15) (b := d9) (by omega) (by omega)] at c1086; omega)) (fun _ => ?_)
  refine lv_aload_n hx hb dL_law_1089 rfl (lv_at hl 6 rfl) ?_
  refine lv_iconst (v := nI 3) hx hb dL_law_1090 (by decide) ?_
  have hF := chF [(q_1, .inl (kA 0, 4, .inl fr9))] hD hS hA
  refine va_calli (va_runV (As := [.int (nI 3)]) (rest := []) ⟨hx, hb, hml, hown, hts⟩ (c_X6_many_B3 l D kA z B9 ra_1 (by first | assumption | omega) (by first | assumption | omega) _) (cwV 1 hts h_L_law_3 rfl rfl rfl (by decide +kernel) ⟨Nat.le_of_ble_eq_true rfl, Nat.le_of_ble_eq_true rfl⟩) (fPvB [(q_1, .inl (kA 0, 4, .inl fr9))] (hbe) hK hP hD hS hG hF) rfl rfl hl.1 rfl (lv_room (Nat.le_of_ble_eq_true rfl)) dL_law_1091 ⟨(Nat.le_trans (Nat.add_le_add_right (show 110 + ti + 1 ≤ 600086 by omega) _) (Nat.le_of_ble_eq_true rfl)), (Nat.le_trans (Nat.add_le_add_right (show 14000 + 4 * ti + 4 ≤ 7301442 by omega) _) (Nat.le_of_ble_eq_true rfl))⟩) hS (fun q _ h => hF q h) hF (fun r_19 w1 t H locs ht hvm hw hB hz1 hk1 hS => ?_)
  obtain ⟨hP, hD⟩ := chJ [(q_1, .inl (kA 0, 4, .inl fr9))] hP hD hk1 hF ht hB
  try dsimp only at hw
  obtain ⟨rfl, e_19⟩ := hw
  replace e_19 := e_19.symm
  subst e_19
  have hP : va_P D vwCl ([(q_1, .inl (kA 0, 4, .inl fr9))] ++ wB kA B9) H := hP
  have hD : va_D A ([(q_1, .inl (kA 0, 4, .inl fr9))] ++ wB kA B9) := hD
  refine lv_iload_n hx hb dL_law_1094 rfl (lv_at hl 3 rfl) ?_
  refine lv_icmp_ne (tgt := 1118) hx hb dL_law_1095 (by decide) (fun c1095 => False.elim (by rw [qeq (a := (B9.2 4)) (b := m49) (by omega) (by omega)] at c1095; omega)) (fun _ => ?_)
  refine lv_aload_n hx hb dL_law_1098 rfl (lv_at hl 6 rfl) ?_
  refine lv_iconst (v := nI 5) hx hb dL_law_1099 (by decide) ?_
  have hF := chF [(q_1, .inl (kA 0, 4, .inl fr9))] hD hS hA
  refine va_calli (va_runV (As := [.int (nI 5)]) (rest := []) ⟨hx, hb, hml, hown, hts⟩ (c_X6_many_B5 l D kA z B9 ra_1 (by first | assumption | omega) (by first | assumption | omega) _) (cwV 1 hts h_L_law_10 rfl rfl rfl (by decide +kernel) ⟨Nat.le_of_ble_eq_true rfl, Nat.le_of_ble_eq_true rfl⟩) (fPvB [(q_1, .inl (kA 0, 4, .inl fr9))] (hbe) hK hP hD hS hG hF) rfl rfl hl.1 rfl (lv_room (Nat.le_of_ble_eq_true rfl)) dL_law_1100 ⟨(Nat.le_trans (Nat.add_le_add_right (show 110 + ti + 1 ≤ 600086 by omega) _) (Nat.le_of_ble_eq_true rfl)), (Nat.le_trans (Nat.add_le_add_right (show 14000 + 4 * ti + 4 ≤ 7301442 by omega) _) (Nat.le_of_ble_eq_true rfl))⟩) hS (fun q _ h => hF q h) hF (fun r_20 w1 t H locs ht hvm hw hB hz1 hk1 hS => ?_)
  obtain ⟨hP, hD⟩ := chJ [(q_1, .inl (kA 0, 4, .inl fr9))] hP hD hk1 hF ht hB
  try dsimp only at hw
  obtain ⟨rfl, e_20⟩ := hw
  replace e_20 := e_20.symm
  subst e_20
  have hP : va_P D vwCl ([(q_1, .inl (kA 0, 4, .inl fr9))] ++ wB kA B9) H := hP
  have hD : va_D A ([(q_1, .inl (kA 0, 4, .inl fr9))] ++ wB kA B9) := hD
  refine lv_iload_n hx hb dL_law_1103 rfl (lv_at hl 2 rfl) ?_
  refine lv_icmp_ne (tgt := 1118) hx hb dL_law_1104 (by decide) (fun c1104 => False.elim (by rw [qeq (a := (B9.2 5)) (b := m59) (by omega) (by omega)] at c1104; omega)) (fun _ => ?_)
  refine lv_aload_n hx hb dL_law_1107 rfl (lv_at hl 6 rfl) ?_
  refine lv_bipush (v := nI 6) hx hb dL_law_1108 (by decide) ?_
  have hF := chF [(q_1, .inl (kA 0, 4, .inl fr9))] hD hS hA
  refine va_calli (va_runV (As := [.int (nI 6)]) (rest := []) ⟨hx, hb, hml, hown, hts⟩ (c_X6_many_B6 l D kA z B9 ra_1 (by first | assumption | omega) (by first | assumption | omega) _) (cwV 1 hts h_L_law_11 rfl rfl rfl (by decide +kernel) ⟨Nat.le_of_ble_eq_true rfl, Nat.le_of_ble_eq_true rfl⟩) (fPvB [(q_1, .inl (kA 0, 4, .inl fr9))] (hbe) hK hP hD hS hG hF) rfl rfl hl.1 rfl (lv_room (Nat.le_of_ble_eq_true rfl)) dL_law_1110 ⟨(Nat.le_trans (Nat.add_le_add_right (show 110 + ti + 1 ≤ 600086 by omega) _) (Nat.le_of_ble_eq_true rfl)), (Nat.le_trans (Nat.add_le_add_right (show 14000 + 4 * ti + 4 ≤ 7301442 by omega) _) (Nat.le_of_ble_eq_true rfl))⟩) hS (fun q _ h => hF q h) hF (fun r_21 w1 t H locs ht hvm hw hB hz1 hk1 hS => ?_)
  obtain ⟨hP, hD⟩ := chJ [(q_1, .inl (kA 0, 4, .inl fr9))] hP hD hk1 hF ht hB
  try dsimp only at hw
  obtain ⟨rfl, e_21⟩ := hw
  replace e_21 := e_21.symm
  subst e_21
  have hP : va_P D vwCl ([(q_1, .inl (kA 0, 4, .inl fr9))] ++ wB kA B9) H := hP
  have hD : va_D A ([(q_1, .inl (kA 0, 4, .inl fr9))] ++ wB kA B9) := hD
  refine lv_iload hx hb dL_law_1113 (lv_at hl 1 rfl) ?_
  refine lv_icmp_eq (tgt := 1120) hx hb dL_law_1115 (by decide) (fun _ => ?_) (fun c1115 => False.elim (by rw [qeq (a := (B9.2 6)) (b := m69) (by omega) (by omega)] at c1115; omega))
  refine lv_iconst (v := nI 0) hx hb dL_law_1120 (by decide) ?_
  refine lv_istore (lv' := [(13, .int (nI 0)), (10, .int (nI d9)), (4, .int (nI m69)), (3, .int (nI m59)), (2, .int (nI m49)), (12, .ref q_1), (5, .int (nI ti)), (1, .ref ra_1), (0, .ref z)]) hx hb dL_law_1121 hl (by decide) rfl (fun ls hl => ?_)
  have lp_1123 : ∀ (n_1123 : Nat) (q : Nat), 4 - q < n_1123 → (q ≤ 4) → ∀ (H : Heap) (locs : List Loc) (ls : Array Slot), va_P D vwCl ([(q_1, .inl (kA 0, 4, .inl fr9))] ++ wB kA B9) H → va_D A ([(q_1, .inl (kA 0, 4, .inl fr9))] ++ wB kA B9) → va_S A s.heap H locs → lv_has ls 16 [(13, .int (nI q)), (10, .int (nI d9)), (4, .int (nI m69)), (3, .int (nI m59)), (2, .int (nI m49)), (12, .ref q_1), (5, .int (nI ti)), (1, .ref ra_1), (0, .ref z)] → W p l e room_1 s m args below meth c H locs (110 + ti + 1) (14000 + 4 * ti + 4) (lw_Z below args s) (F0 m 1123 ls []) := by
    clear hP hD hS hl
    intro n_1123
    induction n_1123 with
    | zero =>
      intro q hm_1123 hq4
      exact absurd hm_1123 (by omega)
    | succ n_1123 ih_1123 =>
      intro q hm_1123 hq4 H locs ls hP hD hS hl
      refine lv_iload hx hb dL_law_1123 (lv_at hl 0 rfl) ?_
      refine lv_iconst (v := nI 4) hx hb dL_law_1125 (by decide) ?_
      refine lv_icmp_ge (tgt := 1161) hx hb dL_law_1126 (by decide) (fun c1126 => ?_) (fun c1126 => ?_)
      ·
        rw [qle (a := 4) (b := q) (by omega) (by omega)] at c1126
        refine lv_iinc (v := nI (ti + 1)) (lv' := [(5, .int (nI (ti + 1))), (13, .int (nI q)), (10, .int (nI d9)), (4, .int (nI m69)), (3, .int (nI m59)), (2, .int (nI m49)), (12, .ref q_1), (1, .ref ra_1), (0, .ref z)]) hx hb dL_law_1161 hl (k := 6) rfl (nI_add ti 1) (by decide) rfl (fun ls hl => ?_)
        refine lv_goto (tgt := 29) hx hb dL_law_1164 (by decide) ?_
        refine W.widen (k := 110 + (ti + 1)) (n := 14000 + 4 * (ti + 1)) (show 110 + ti + 1 ≤ 110 + (ti + 1) by omega) (show 14000 + 4 * ti + 4 ≤ 14000 + 4 * (ti + 1) by omega) ?_
        exact ih_29 (ti + 1) B9 m49 m59 m69 (by omega) (by first | assumption | omega | rfl) hbe (hL.le (by omega)) hm49 hm59 hm69 _ _ _ (chP (o := [(q_1, .inl (kA 0, 4, .inl fr9))]) hP) (chD (o := [(q_1, .inl (kA 0, 4, .inl fr9))]) hD) hS (lv_sub hl [0, 3, 4, 5, 7, 8] rfl)
      ·
        rw [qle (a := 4) (b := q) (by omega) (by omega)] at c1126
        refine lv_aload_n hx hb dL_law_1129 rfl (lv_at hl 7 rfl) ?_
        refine lv_iload hx hb dL_law_1130 (lv_at hl 0 rfl) ?_
        refine lv_iconst (v := nI 1) hx hb dL_law_1132 (by decide) ?_
        have hF := chF [(q_1, .inl (kA 0, 4, .inl fr9))] hD hS hA
        refine va_calli (va_runV (As := [.int (nI q), .int (nI 1)]) (rest := []) ⟨hx, hb, hml, hown, hts⟩ (c_X6_ofTrack_B1 l D kA z B9 ra_1 q (by first | assumption | omega) (by first | assumption | omega) (by first | assumption | omega) _) (cwV 2 hts h_L_law_6 rfl rfl rfl (by decide +kernel) ⟨Nat.le_of_ble_eq_true rfl, Nat.le_of_ble_eq_true rfl⟩) (fPvB [(q_1, .inl (kA 0, 4, .inl fr9))] (hbe) hK hP hD hS hG hF) rfl rfl hl.1 rfl (lv_room (Nat.le_of_ble_eq_true rfl)) dL_law_1133 ⟨(Nat.le_trans (Nat.add_le_add_right (show 110 + ti + 1 ≤ 600086 by omega) _) (Nat.le_of_ble_eq_true rfl)), (Nat.le_trans (Nat.add_le_add_right (show 14000 + 4 * ti + 4 ≤ 7301442 by omega) _) (Nat.le_of_ble_eq_true rfl))⟩) hS (fun q _ h => hF q h) hF (fun r_22 w1 t H locs ht hvm hw hB hz1 hk1 hS => ?_)
        obtain ⟨hP, hD⟩ := chJ [(q_1, .inl (kA 0, 4, .inl fr9))] hP hD hk1 hF ht hB
        try dsimp only at hw
        obtain ⟨rfl, e_22⟩ := hw
        replace e_22 := e_22.symm
        subst e_22
        have hP : va_P D vwCl ([(q_1, .inl (kA 0, 4, .inl fr9))] ++ wB kA B9) H := hP
        have hD : va_D A ([(q_1, .inl (kA 0, 4, .inl fr9))] ++ wB kA B9) := hD
        refine lv_aload hx hb dL_law_1136 (lv_at hl 5 rfl) ?_
        refine lv_iload hx hb dL_law_1138 (lv_at hl 0 rfl) ?_
        refine va_iald hx hb hK hP 0 0 rfl rfl (vp_in_nI (n := q) (by omega) (by decide)) dL_law_1140 ?_
        rw [nI_clamp (n := q) (by omega)]
        have hq44 := (hI.1 q (by omega)).2.2.2.1
        refine W.eq (g2 := F0 m 1141 ls [.int (nI (nn (B9.1 q) 5)), .int (nI (nn (B9.1 q) 5))]) (by rw [show fr9 q = nI (nn (B9.1 q) 5) from hfr9 q (by omega)]) ?_
        refine lv_icmp_ne (tgt := 1153) hx hb dL_law_1141 (by decide) (fun c1141 => False.elim (by rw [qeq (a := (nn (B9.1 q) 5)) (b := (nn (B9.1 q) 5)) (by omega) (by omega)] at c1141; omega)) (fun _ => ?_)
        refine lv_aload_n hx hb dL_law_1144 rfl (lv_at hl 7 rfl) ?_
        refine lv_iload hx hb dL_law_1145 (lv_at hl 0 rfl) ?_
        have hF := chF [(q_1, .inl (kA 0, 4, .inl fr9))] hD hS hA
        refine va_calli (va_runS (As := [.ref ra_1, .int (nI q)]) (rest := []) ⟨hx, hb, hml, hown, hts⟩ (c_L_isSo l D kA z B9 ra_1 q (by first | assumption | omega) (by first | assumption | omega) (by first | assumption | omega) (by have := hL9.2.1 q (by omega); omega) _) (va_cwS 2 hts h_L_law_5 rfl rfl rfl (by decide +kernel) ⟨Nat.le_of_ble_eq_true rfl, Nat.le_of_ble_eq_true rfl⟩) (fPsB [(q_1, .inl (kA 0, 4, .inl fr9))] hK hP hD hS hG hF) rfl rfl hl.1 rfl (lv_room (Nat.le_of_ble_eq_true rfl)) dL_law_1147 ⟨(Nat.le_trans (Nat.add_le_add_right (show 110 + ti + 1 ≤ 600086 by omega) _) (Nat.le_of_ble_eq_true rfl)), (Nat.le_trans (Nat.add_le_add_right (show 14000 + 4 * ti + 4 ≤ 7301442 by omega) _) (Nat.le_of_ble_eq_true rfl))⟩) hS (fun q _ h => hF q h) hF (fun r_23 w1 t H locs ht hvm hw hB hz1 hk1 hS => ?_)
        obtain ⟨hP, hD⟩ := chJ [(q_1, .inl (kA 0, 4, .inl fr9))] hP hD hk1 hF ht hB
        try dsimp only at hw
        obtain ⟨rfl, e_23⟩ := hw
        replace e_23 := e_23.symm
        subst e_23
        have hP : va_P D vwCl ([(q_1, .inl (kA 0, 4, .inl fr9))] ++ wB kA B9) H := hP
        have hD : va_D A ([(q_1, .inl (kA 0, 4, .inl fr9))] ++ wB kA B9) := hD
        refine lv_if_ne (tgt := 1155) hx hb dL_law_1150 (by decide) (fun _ => ?_) (fun c1150 => absurd c1150 (by decide))
        refine lv_iinc (v := nI (q + 1)) (lv' := [(13, .int (nI (q + 1))), (10, .int (nI d9)), (4, .int (nI m69)), (3, .int (nI m59)), (2, .int (nI m49)), (12, .ref q_1), (5, .int (nI ti)), (1, .ref ra_1), (0, .ref z)]) hx hb dL_law_1155 hl (k := 0) rfl (nI_add q 1) (by decide) rfl (fun ls hl => ?_)
        refine lv_goto (tgt := 1123) hx hb dL_law_1158 (by decide) ?_
        exact ih_1123 (q + 1) (by omega) (by first | assumption | omega | rfl) _ _ _ hP hD hS (lv_sub hl [0, 1, 2, 3, 4, 5, 6, 7, 8] rfl)
  exact lp_1123 5 0 (by omega) (by first | assumption | omega | rfl) _ _ _ hP hD hS (lv_sub hl [0, 1, 2, 3, 4, 5, 6, 7, 8] rfl)
set_option maxHeartbeats 4000000 in
set_option maxRecDepth 100000 in
theorem cL_0 (l : Launch) (D : va_G) (kA : Nat → ClassId) (z : Nat) (hfl : l.stackTraces = false) {p : Program} {e : Env} {s : State} {m : MethodId} {args : Array Value} {below : List Frame} {meth : Method} {c : Code} {A : Nat → Prop} {ls0 : Array Slot} (hE : fE p s m args meth c D (tyL kA) z wq_L_law RL cL_law 16 (some .boolean) [.ref z] [] A ls0) (hargs : args = #[Value.ref z]) (hA2 : ∀ q : Nat, A q → s.heap.size ≤ q) (ti : Nat) (ra_1 : Nat) (q_1 : Nat) (B : BS) (m4 : Nat) (m5 : Nat) (m6 : Nat) (k : Nat) (x6 : Int32) (fro : Nat → Int32) (hti4 : ti < 40) (hbe : B.2 0 = ra_1) (hL : LI B (ti + 4)) (hm4 : m4 = B.2 4) (hm5 : m5 = B.2 5) (hm6 : m6 = B.2 6) (hk : k < 4) (hfro : ∀ q, q < 4 → fro q = nI (nn (B.1 q) 5)) (jn_1067 : ∀ (B9 : BS) (fr9 : Nat → Int32) (d9 : Nat) (m49 : Nat) (m59 : Nat) (m69 : Nat) (_ : True), (B9.2 0 = ra_1) → (LI B9 (ti + 5)) → (∀ q, q < 4 → fr9 q = nI (nn (B9.1 q) 5)) → (d9 = B9.2 3) → (m49 = B9.2 4) → (m59 = B9.2 5) → (m69 = B9.2 6) → ∀ (H : Heap) (locs : List Loc) (ls : Array Slot), va_P D vwCl ([(q_1, .inl (kA 0, 4, .inl fr9))] ++ wB kA B9) H → va_D A ([(q_1, .inl (kA 0, 4, .inl fr9))] ++ wB kA B9) → va_S A s.heap H locs → lv_has ls 16 [(10, .int (nI d9)), (4, .int (nI m69)), (3, .int (nI m59)), (2, .int (nI m49)), (12, .ref q_1), (5, .int (nI ti)), (1, .ref ra_1), (0, .ref z)] → W p l e room_1 s m args below meth c H locs (110 + ti + 1) (14000 + 4 * ti + 4) (lw_Z below args s) (F0 m 1067 ls [])) (H : Heap) (locs : List Loc) (ls : Array Slot) (hP : va_P D vwCl ([(q_1, .inl (kA 0, 4, .inl fro))] ++ wB kA B) H) (hD : va_D A ([(q_1, .inl (kA 0, 4, .inl fro))] ++ wB kA B)) (hS : va_S A s.heap H locs) (hl : lv_has ls 16 [(12, .ref q_1), (11, .int (nI (shB B))), (10, .int (nI (B.2 3))), (9, .int (nI (nn (B.1 k) 0))), (8, .int (nI (nn (B.1 k) 5))), (7, .int (nI k)), (6, .int x6), (5, .int (nI ti)), (4, .int (nI m6)), (3, .int (nI m5)), (2, .int (nI m4)), (1, .ref ra_1), (0, .ref z)]) : W p l e room_1 s m args below meth c H locs (110 + ti + 1) (14000 + 4 * ti + 4) (lw_Z below args s) (F0 m 200 ls []) := by
  obtain ⟨hx, hb, hr, hml, hts, hown, hlocks, hA, -, -, hK, -, hG, -⟩ := hE
  have hH : s.heap = s.heap := rfl
  have hI := hL.1
  have hl42 := hL.2.2.1
  have hl52 := hL.2.2.2.1
  have hl62 := hL.2.2.2.2
  have iT := hI.1 k hk
  have hn4 := iT.2.2.2.1
  have hn1 := iT.2.1
  have hc2 := iT.1
  have h34 := hL.2.1 k hk
  have hsk := shS_le (B := B) hk
  have hB4 := shB_le hI
  have hsp0 := hI.2.2.1
  have hdw0 := hI.2.2.2
  refine lv_bipush (v := nI 6) hx hb dL_law_200 (by decide) ?_
  refine lv_iload hx hb dL_law_202 (lv_at hl 6 rfl) ?_
  refine lv_iconst (v := nI 3) hx hb dL_law_204 (by decide) ?_
  refine lv_ishr hx hb dL_law_205 ?_
  refine lv_bipush (v := nI 6) hx hb dL_law_206 (by decide) ?_
  have hF := chF0 hS hA
  refine va_calli (va_runS (As := [.int (x6 >>> ((nI 3) &&& 31)), .int (nI 6)]) (rest := [.int (nI 6)]) ⟨hx, hb, hml, hown, hts⟩ (c_L_below l D kA z (x6 >>> ((nI 3) &&& 31)) 6 (by first | assumption | omega) (by first | assumption | omega) _) (va_cwS 2 hts h_L_law_1 rfl rfl rfl (by decide +kernel) ⟨Nat.le_of_ble_eq_true rfl, Nat.le_of_ble_eq_true rfl⟩) (fPs0 hK hS hG hF) rfl rfl hl.1 rfl (lv_room (Nat.le_of_ble_eq_true rfl)) dL_law_208 ⟨(Nat.le_trans (Nat.add_le_add_right (show 110 + ti + 1 ≤ 600086 by omega) _) (Nat.le_of_ble_eq_true rfl)), (Nat.le_trans (Nat.add_le_add_right (show 14000 + 4 * ti + 4 ≤ 7301442 by omega) _) (Nat.le_of_ble_eq_true rfl))⟩) hS (fun q _ h => hF q h) hF (fun r_24 w1 t H locs ht hvm hw hB hz1 hk1 hS => ?_)
  obtain ⟨hP, hD⟩ := chJ0 hP hD hk1 hF ht hB
  try dsimp only at hw
  obtain ⟨k_4, rfl, e_24, hkq_4⟩ := hw
  rw [List.append_nil] at hP hD
  replace e_24 := e_24.symm
  subst e_24
  have hP : va_P D vwCl ([(q_1, .inl (kA 0, 4, .inl fro))] ++ wB kA B) H := hP
  have hD : va_D A ([(q_1, .inl (kA 0, 4, .inl fro))] ++ wB kA B) := hD
  refine lv_iadd hx hb dL_law_211 ?_
  rw [nI_add 6 k_4]
  refine lv_istore (lv' := [(13, .int (nI (6 + k_4))), (12, .ref q_1), (11, .int (nI (shB B))), (10, .int (nI (B.2 3))), (9, .int (nI (nn (B.1 k) 0))), (8, .int (nI (nn (B.1 k) 5))), (7, .int (nI k)), (6, .int x6), (5, .int (nI ti)), (4, .int (nI m6)), (3, .int (nI m5)), (2, .int (nI m4)), (1, .ref ra_1), (0, .ref z)]) hx hb dL_law_212 hl (by decide) rfl (fun ls hl => ?_)
  refine lv_aload_n hx hb dL_law_214 rfl (lv_at hl 12 rfl) ?_
  refine lv_iload hx hb dL_law_215 (lv_at hl 0 rfl) ?_
  have hF := chF [(q_1, .inl (kA 0, 4, .inl fro))] hD hS hA
  refine va_calli (va_runV (As := [.int (nI (6 + k_4))]) (rest := []) ⟨hx, hb, hml, hown, hts⟩ (c_X6_speed_B l D kA z B ra_1 (6 + k_4) (by first | assumption | omega) (by first | assumption | omega) (by first | assumption | omega) (by first | assumption | omega) _) (cwV 1 hts h_L_law_12 rfl rfl rfl (by decide +kernel) ⟨Nat.le_of_ble_eq_true rfl, Nat.le_of_ble_eq_true rfl⟩) (fPvB [(q_1, .inl (kA 0, 4, .inl fro))] (hbe) hK hP hD hS hG hF) rfl rfl hl.1 rfl (lv_room (Nat.le_of_ble_eq_true rfl)) dL_law_217 ⟨(Nat.le_trans (Nat.add_le_add_right (show 110 + ti + 1 ≤ 600086 by omega) _) (Nat.le_of_ble_eq_true rfl)), (Nat.le_trans (Nat.add_le_add_right (show 14000 + 4 * ti + 4 ≤ 7301442 by omega) _) (Nat.le_of_ble_eq_true rfl))⟩) hS (fun q _ h => hF q h) hF (fun r_25 w1 t H locs ht hvm hw hB hz1 hk1 hS => ?_)
  obtain ⟨hP, hD⟩ := chJ [(q_1, .inl (kA 0, 4, .inl fro))] hP hD hk1 hF ht hB
  try dsimp only at hw
  subst hw
  have hP : va_P D vwCl ([(q_1, .inl (kA 0, 4, .inl fro))] ++ wB kA (B.1, uP B.2 2 (6 + k_4))) H := hP
  have hD : va_D A ([(q_1, .inl (kA 0, 4, .inl fro))] ++ wB kA (B.1, uP B.2 2 (6 + k_4))) := hD
  obtain ⟨Bn, hBn⟩ : ∃ X : BS, X = (B.1, uP B.2 2 (6 + k_4)) := ⟨_, rfl⟩
  rw [← hBn] at hP hD
  have hM0 : Bn.2 0 = B.2 0 := (congrArg (fun X : BS => X.2 0) hBn).trans (uP_ne (α := Nat) B.2 (k := 2) (j := 0) (6 + k_4) (by decide))
  have hM2 : Bn.2 2 = (6 + k_4) := (congrArg (fun X : BS => X.2 2) hBn).trans (uP_at (α := Nat) B.2 2 (6 + k_4))
  have hM3 : Bn.2 3 = B.2 3 := (congrArg (fun X : BS => X.2 3) hBn).trans (uP_ne (α := Nat) B.2 (k := 2) (j := 3) (6 + k_4) (by decide))
  have hM4 : Bn.2 4 = B.2 4 := (congrArg (fun X : BS => X.2 4) hBn).trans (uP_ne (α := Nat) B.2 (k := 2) (j := 4) (6 + k_4) (by decide))
  have hM5 : Bn.2 5 = B.2 5 := (congrArg (fun X : BS => X.2 5) hBn).trans (uP_ne (α := Nat) B.2 (k := 2) (j := 5) (6 + k_4) (by decide))
  have hM6 : Bn.2 6 = B.2 6 := (congrArg (fun X : BS => X.2 6) hBn).trans (uP_ne (α := Nat) B.2 (k := 2) (j := 6) (6 + k_4) (by decide))
  have hbe : Bn.2 0 = ra_1 := hM0.trans hbe
  have hLn : LI Bn (ti + 4) := by rw [hBn]; exact LI_S hL (by omega) (by omega)
  have hI := hLn.1
  have hsp1 := hI.2.2.1
  have hfn : ∀ q, q < 4 → fro q = nI (nn (Bn.1 q) 5) := fun q hq => by rw [hBn]; exact hfro q hq
  have hP : va_P D vwCl ([(q_1, .inl (kA 0, 4, .inl fro))] ++ wB kA Bn) H := hP
  have hD : va_D A ([(q_1, .inl (kA 0, 4, .inl fro))] ++ wB kA Bn) := hD
  refine lv_pop hx hb dL_law_220 rfl ?_
  refine lv_aload_n hx hb dL_law_221 rfl (lv_at hl 12 rfl) ?_
  refine lv_iconst (v := nI 1) hx hb dL_law_222 (by decide) ?_
  have hF := chF [(q_1, .inl (kA 0, 4, .inl fro))] hD hS hA
  refine va_calli (va_runV (As := [.int (nI 1)]) (rest := []) ⟨hx, hb, hml, hown, hts⟩ (c_X6_many_B1 l D kA z Bn ra_1 (by first | assumption | omega) (by first | assumption | omega) _) (cwV 1 hts h_L_law_13 rfl rfl rfl (by decide +kernel) ⟨Nat.le_of_ble_eq_true rfl, Nat.le_of_ble_eq_true rfl⟩) (fPvB [(q_1, .inl (kA 0, 4, .inl fro))] (hbe) hK hP hD hS hG hF) rfl rfl hl.1 rfl (lv_room (Nat.le_of_ble_eq_true rfl)) dL_law_223 ⟨(Nat.le_trans (Nat.add_le_add_right (show 110 + ti + 1 ≤ 600086 by omega) _) (Nat.le_of_ble_eq_true rfl)), (Nat.le_trans (Nat.add_le_add_right (show 14000 + 4 * ti + 4 ≤ 7301442 by omega) _) (Nat.le_of_ble_eq_true rfl))⟩) hS (fun q _ h => hF q h) hF (fun r_26 w1 t H locs ht hvm hw hB hz1 hk1 hS => ?_)
  obtain ⟨hP, hD⟩ := chJ [(q_1, .inl (kA 0, 4, .inl fro))] hP hD hk1 hF ht hB
  try dsimp only at hw
  obtain ⟨rfl, e_25⟩ := hw
  replace e_25 := e_25.symm
  subst e_25
  have hP : va_P D vwCl ([(q_1, .inl (kA 0, 4, .inl fro))] ++ wB kA Bn) H := hP
  have hD : va_D A ([(q_1, .inl (kA 0, 4, .inl fro))] ++ wB kA Bn) := hD
  refine lv_iload hx hb dL_law_226 (lv_at hl 0 rfl) ?_
  refine lv_icmp_eq (tgt := 1067) hx hb dL_law_228 (by decide) (fun _ => ?_) (fun c228 => False.elim (by rw [qeq (a := (Bn.2 2)) (b := (6 + k_4)) (by omega) (by omega)] at c228; omega))
  exact jn_1067 Bn fro (B.2 3) m4 m5 m6 trivial hbe (hLn.le (by omega)) hfn (by omega) (by omega) (by omega) (by omega) _ _ _ hP hD hS (lv_sub hl [3, 9, 10, 11, 1, 8, 12, 13] rfl)
set_option maxHeartbeats 4000000 in
set_option maxRecDepth 100000 in
theorem cL_1 (l : Launch) (D : va_G) (kA : Nat → ClassId) (z : Nat) (hfl : l.stackTraces = false) {p : Program} {e : Env} {s : State} {m : MethodId} {args : Array Value} {below : List Frame} {meth : Method} {c : Code} {A : Nat → Prop} {ls0 : Array Slot} (hE : fE p s m args meth c D (tyL kA) z wq_L_law RL cL_law 16 (some .boolean) [.ref z] [] A ls0) (hargs : args = #[Value.ref z]) (hA2 : ∀ q : Nat, A q → s.heap.size ≤ q) (ti : Nat) (ra_1 : Nat) (q_1 : Nat) (B : BS) (m4 : Nat) (m5 : Nat) (m6 : Nat) (k : Nat) (x6 : Int32) (fro : Nat → Int32) (hti4 : ti < 40) (hbe : B.2 0 = ra_1) (hL : LI B (ti + 4)) (hm4 : m4 = B.2 4) (hm5 : m5 = B.2 5) (hm6 : m6 = B.2 6) (hk : k < 4) (hfro : ∀ q, q < 4 → fro q = nI (nn (B.1 q) 5)) (jn_1067 : ∀ (B9 : BS) (fr9 : Nat → Int32) (d9 : Nat) (m49 : Nat) (m59 : Nat) (m69 : Nat) (_ : True), (B9.2 0 = ra_1) → (LI B9 (ti + 5)) → (∀ q, q < 4 → fr9 q = nI (nn (B9.1 q) 5)) → (d9 = B9.2 3) → (m49 = B9.2 4) → (m59 = B9.2 5) → (m69 = B9.2 6) → ∀ (H : Heap) (locs : List Loc) (ls : Array Slot), va_P D vwCl ([(q_1, .inl (kA 0, 4, .inl fr9))] ++ wB kA B9) H → va_D A ([(q_1, .inl (kA 0, 4, .inl fr9))] ++ wB kA B9) → va_S A s.heap H locs → lv_has ls 16 [(10, .int (nI d9)), (4, .int (nI m69)), (3, .int (nI m59)), (2, .int (nI m49)), (12, .ref q_1), (5, .int (nI ti)), (1, .ref ra_1), (0, .ref z)] → W p l e room_1 s m args below meth c H locs (110 + ti + 1) (14000 + 4 * ti + 4) (lw_Z below args s) (F0 m 1067 ls [])) (H : Heap) (locs : List Loc) (ls : Array Slot) (hP : va_P D vwCl ([(q_1, .inl (kA 0, 4, .inl fro))] ++ wB kA B) H) (hD : va_D A ([(q_1, .inl (kA 0, 4, .inl fro))] ++ wB kA B)) (hS : va_S A s.heap H locs) (hl : lv_has ls 16 [(12, .ref q_1), (11, .int (nI (shB B))), (10, .int (nI (B.2 3))), (9, .int (nI (nn (B.1 k) 0))), (8, .int (nI (nn (B.1 k) 5))), (7, .int (nI k)), (6, .int x6), (5, .int (nI ti)), (4, .int (nI m6)), (3, .int (nI m5)), (2, .int (nI m4)), (1, .ref ra_1), (0, .ref z)]) : W p l e room_1 s m args below meth c H locs (110 + ti + 1) (14000 + 4 * ti + 4) (lw_Z below args s) (F0 m 233 ls []) := by
  obtain ⟨hx, hb, hr, hml, hts, hown, hlocks, hA, -, -, hK, -, hG, -⟩ := hE
  have hH : s.heap = s.heap := rfl
  have hI := hL.1
  have hl42 := hL.2.2.1
  have hl52 := hL.2.2.2.1
  have hl62 := hL.2.2.2.2
  have iT := hI.1 k hk
  have hn4 := iT.2.2.2.1
  have hn1 := iT.2.1
  have hc2 := iT.1
  have h34 := hL.2.1 k hk
  have hsk := shS_le (B := B) hk
  have hB4 := shB_le hI
  have hsp0 := hI.2.2.1
  have hdw0 := hI.2.2.2
  refine lv_iload hx hb dL_law_233 (lv_at hl 3 rfl) ?_
  refine lv_iconst (v := nI 2) hx hb dL_law_235 (by decide) ?_
  have jn_246 : ∀ (cb : Nat) (_ : True), (cb = cB (nn (B.1 k) 0)) → ∀ (H : Heap) (locs : List Loc) (ls : Array Slot), va_P D vwCl ([(q_1, .inl (kA 0, 4, .inl fro))] ++ wB kA B) H → va_D A ([(q_1, .inl (kA 0, 4, .inl fro))] ++ wB kA B) → va_S A s.heap H locs → lv_has ls 16 [(12, .ref q_1), (11, .int (nI (shB B))), (10, .int (nI (B.2 3))), (9, .int (nI (nn (B.1 k) 0))), (8, .int (nI (nn (B.1 k) 5))), (7, .int (nI k)), (6, .int x6), (5, .int (nI ti)), (4, .int (nI m6)), (3, .int (nI m5)), (2, .int (nI m4)), (1, .ref ra_1), (0, .ref z)] → W p l e room_1 s m args below meth c H locs (110 + ti + 1) (14000 + 4 * ti + 4) (lw_Z below args s) (F0 m 246 ls [.int (nI cb)]) := by
    clear hP hD hS hl
    intro cb _ hcb H locs ls hP hD hS hl
    have hcl := cB_le (nn (B.1 k) 0)
    have hcg := cB_ge (nn (B.1 k) 0)
    refine lv_istore (lv' := [(13, .int (nI cb)), (12, .ref q_1), (11, .int (nI (shB B))), (10, .int (nI (B.2 3))), (9, .int (nI (nn (B.1 k) 0))), (8, .int (nI (nn (B.1 k) 5))), (7, .int (nI k)), (6, .int x6), (5, .int (nI ti)), (4, .int (nI m6)), (3, .int (nI m5)), (2, .int (nI m4)), (1, .ref ra_1), (0, .ref z)]) hx hb dL_law_246 hl (by decide) rfl (fun ls hl => ?_)
    refine lv_iload hx hb dL_law_248 (lv_at hl 5 rfl) ?_
    refine lv_iload hx hb dL_law_250 (lv_at hl 0 rfl) ?_
    refine lv_iadd hx hb dL_law_252 ?_
    rw [nI_add (nn (B.1 k) 5) cb]
    refine lv_sipush (v := nI 400) hx hb dL_law_253 (by decide) ?_
    refine lv_icmp_le (tgt := 262) hx hb dL_law_256 (by decide) (fun c256 => ?_) (fun c256 => ?_)
    ·
      rw [qle (a := (nn (B.1 k) 5 + cb)) (b := 400) (by omega) (by omega)] at c256
      refine lv_aload hx hb dL_law_262 (lv_at hl 1 rfl) ?_
      refine lv_iload hx hb dL_law_264 (lv_at hl 6 rfl) ?_
      refine lv_dup2_11 hx hb dL_law_266 rfl rfl ?_
      refine va_iald hx hb hK hP 0 0 rfl rfl (vp_in_nI (n := k) (by omega) (by decide)) dL_law_267 ?_
      rw [nI_clamp (n := k) (by omega)]
      refine W.eq (g2 := F0 m 268 ls [.int (nI (nn (B.1 k) 5)), .int (nI k), .ref q_1]) (by rw [show fro k = nI (nn (B.1 k) 5) from hfro k hk]) ?_
      refine lv_iload hx hb dL_law_268 (lv_at hl 0 rfl) ?_
      refine lv_iadd hx hb dL_law_270 ?_
      rw [nI_add (nn (B.1 k) 5) cb]
      refine va_iast hx hb hK hP hD hS 0 0 rfl rfl (vp_in_nI (n := k) (by omega) (by decide)) dL_law_271 (fun H locs hP hD hS => ?_)
      rw [nI_clamp (n := k) (by omega)] at hP hD
      have hP : va_P D vwCl ([(q_1, .inl (kA 0, 4, .inl (upd fro k (nI (nn (B.1 k) 5 + cb)))))] ++ wB kA B) H := hP
      have hD : va_D A ([(q_1, .inl (kA 0, 4, .inl (upd fro k (nI (nn (B.1 k) 5 + cb)))))] ++ wB kA B) := hD
      refine lv_aload_n hx hb dL_law_272 rfl (lv_at hl 12 rfl) ?_
      refine lv_iload hx hb dL_law_273 (lv_at hl 6 rfl) ?_
      refine lv_iload hx hb dL_law_275 (lv_at hl 7 rfl) ?_
      refine lv_iconst (v := nI 3) hx hb dL_law_277 (by decide) ?_
      refine lv_ishr hx hb dL_law_278 ?_
      refine lv_sipush (v := nI 256) hx hb dL_law_279 (by decide) ?_
      have hF := chF0 hS hA
      refine va_calli (va_runS (As := [.int (x6 >>> ((nI 3) &&& 31)), .int (nI 256)]) (rest := [.int (nI k), .ref ra_1]) ⟨hx, hb, hml, hown, hts⟩ (c_L_below l D kA z (x6 >>> ((nI 3) &&& 31)) 256 (by first | assumption | omega) (by first | assumption | omega) _) (va_cwS 2 hts h_L_law_1 rfl rfl rfl (by decide +kernel) ⟨Nat.le_of_ble_eq_true rfl, Nat.le_of_ble_eq_true rfl⟩) (fPs0 hK hS hG hF) rfl rfl hl.1 rfl (lv_room (Nat.le_of_ble_eq_true rfl)) dL_law_282 ⟨(Nat.le_trans (Nat.add_le_add_right (show 110 + ti + 1 ≤ 600086 by omega) _) (Nat.le_of_ble_eq_true rfl)), (Nat.le_trans (Nat.add_le_add_right (show 14000 + 4 * ti + 4 ≤ 7301442 by omega) _) (Nat.le_of_ble_eq_true rfl))⟩) hS (fun q _ h => hF q h) hF (fun r_27 w1 t H locs ht hvm hw hB hz1 hk1 hS => ?_)
      obtain ⟨hP, hD⟩ := chJ0 hP hD hk1 hF ht hB
      try dsimp only at hw
      obtain ⟨k_5, rfl, e_26, hkq_5⟩ := hw
      rw [List.append_nil] at hP hD
      replace e_26 := e_26.symm
      subst e_26
      have hP : va_P D vwCl ([(q_1, .inl (kA 0, 4, .inl (upd fro k (nI (nn (B.1 k) 5 + cb)))))] ++ wB kA B) H := hP
      have hD : va_D A ([(q_1, .inl (kA 0, 4, .inl (upd fro k (nI (nn (B.1 k) 5 + cb)))))] ++ wB kA B) := hD
      have hF := chF [(q_1, .inl (kA 0, 4, .inl (upd fro k (nI (nn (B.1 k) 5 + cb)))))] hD hS hA
      refine va_calli (va_runV (As := [.int (nI k), .int (nI k_5)]) (rest := []) ⟨hx, hb, hml, hown, hts⟩ (c_X6_write_B l D kA z B ra_1 k k_5 (by first | assumption | omega) (by first | assumption | omega) (by first | assumption | omega) (by first | assumption | omega) (by first | assumption | omega) _) (cwV 2 hts h_L_law_14 rfl rfl rfl (by decide +kernel) ⟨Nat.le_of_ble_eq_true rfl, Nat.le_of_ble_eq_true rfl⟩) (fPvB [(q_1, .inl (kA 0, 4, .inl (upd fro k (nI (nn (B.1 k) 5 + cb)))))] (hbe) hK hP hD hS hG hF) rfl rfl hl.1 rfl (lv_room (Nat.le_of_ble_eq_true rfl)) dL_law_285 ⟨(Nat.le_trans (Nat.add_le_add_right (show 110 + ti + 1 ≤ 600086 by omega) _) (Nat.le_of_ble_eq_true rfl)), (Nat.le_trans (Nat.add_le_add_right (show 14000 + 4 * ti + 4 ≤ 7301442 by omega) _) (Nat.le_of_ble_eq_true rfl))⟩) hS (fun q _ h => hF q h) hF (fun r_28 w1 t H locs ht hvm hw hB hz1 hk1 hS => ?_)
      obtain ⟨hP, hD⟩ := chJ [(q_1, .inl (kA 0, 4, .inl (upd fro k (nI (nn (B.1 k) 5 + cb)))))] hP hD hk1 hF ht hB
      try dsimp only at hw
      obtain ⟨S_1, rfl, e_27, q_2⟩ := hw
      replace e_27 := e_27.symm
      subst e_27
      have hP : va_P D vwCl ([(q_1, .inl (kA 0, 4, .inl (upd fro k (nI (nn (B.1 k) 5 + cb)))))] ++ wB kA (uP B.1 k S_1, B.2)) H := hP
      have hD : va_D A ([(q_1, .inl (kA 0, 4, .inl (upd fro k (nI (nn (B.1 k) 5 + cb)))))] ++ wB kA (uP B.1 k S_1, B.2)) := hD
      obtain ⟨Bn, hBn⟩ : ∃ X : BS, X = (uP B.1 k S_1, B.2) := ⟨_, rfl⟩
      rw [← hBn] at hP hD
      have hBk : Bn.1 k = S_1 := (congrArg (fun X : BS => X.1 k) hBn).trans (uP_at _ _ _)
      have hM0 : Bn.2 0 = B.2 0 := (congrArg (fun X : BS => X.2 0) hBn).trans (rfl)
      have hM2 : Bn.2 2 = B.2 2 := (congrArg (fun X : BS => X.2 2) hBn).trans (rfl)
      have hM3 : Bn.2 3 = B.2 3 := (congrArg (fun X : BS => X.2 3) hBn).trans (rfl)
      have hM4 : Bn.2 4 = B.2 4 := (congrArg (fun X : BS => X.2 4) hBn).trans (rfl)
      have hM5 : Bn.2 5 = B.2 5 := (congrArg (fun X : BS => X.2 5) hBn).trans (rfl)
      have hM6 : Bn.2 6 = B.2 6 := (congrArg (fun X : BS => X.2 6) hBn).trans (rfl)
      have hbe : Bn.2 0 = ra_1 := hM0.trans hbe
      have hLn : LI Bn (ti + 4) := by rw [hBn]; exact LI_T hL hk q_2.1 (q_2.2.1 3 (by decide))
      have hI := hLn.1
      have hsp1 := hI.2.2.1
      have hn5 : nn (Bn.1 k) 5 = _ := (congrArg (fun X => nn X 5) hBk).trans q_2.2.2.1
      obtain ⟨fr2, hfr2⟩ : ∃ X : Nat → Int32, X = upd fro k (nI (nn (B.1 k) 5 + cb)) := ⟨_, rfl⟩
      rw [← hfr2] at hP hD
      have hf2k : fr2 k = nI (nn (B.1 k) 5 + cb) := by rw [hfr2]; exact upd_at _ _ _
      have hfn : ∀ q, q < 4 → fr2 q = nI (nn (Bn.1 q) 5) := by rw [hfr2, hBn]; exact fr_up hfro (q_2.2.2.1.trans (by rw [hcb]))
      have hP : va_P D vwCl ([(q_1, .inl (kA 0, 4, .inl fr2))] ++ wB kA Bn) H := hP
      have hD : va_D A ([(q_1, .inl (kA 0, 4, .inl fr2))] ++ wB kA Bn) := hD
      refine lv_aload hx hb dL_law_288 (lv_at hl 1 rfl) ?_
      refine lv_iload hx hb dL_law_290 (lv_at hl 6 rfl) ?_
      refine va_iald hx hb hK hP 0 0 rfl rfl (vp_in_nI (n := k) (by omega) (by decide)) dL_law_292 ?_
      rw [nI_clamp (n := k) (by omega)]
      refine W.eq (g2 := F0 m 293 ls [.int (nI (nn (B.1 k) 5 + cb)), .int (nI (nn (B.1 k) 5 + cB (nn (B.1 k) 0)))]) (by rw [show fr2 k = nI (nn (B.1 k) 5 + cb) from hf2k]) ?_
      refine lv_icmp_ne (tgt := 345) hx hb dL_law_293 (by decide) (fun c293 => False.elim (by rw [qeq (a := (nn (B.1 k) 5 + cB (nn (B.1 k) 0))) (b := (nn (B.1 k) 5 + cb)) (by omega) (by omega)] at c293; omega)) (fun _ => ?_)
      refine lv_aload_n hx hb dL_law_296 rfl (lv_at hl 12 rfl) ?_
      refine lv_iload hx hb dL_law_297 (lv_at hl 6 rfl) ?_
      refine lv_iload hx hb dL_law_299 (lv_at hl 5 rfl) ?_
      refine lv_iconst (v := nI 1) hx hb dL_law_301 (by decide) ?_
      have hF := chF [(q_1, .inl (kA 0, 4, .inl fr2))] hD hS hA
      refine va_calli (va_runV (As := [.int (nI k), .int (nI (nn (B.1 k) 5)), .int (nI 1)]) (rest := []) ⟨hx, hb, hml, hown, hts⟩ (c_X6_ofCell_B1 l D kA z Bn ra_1 k (nn (B.1 k) 5) (by first | assumption | omega) (by first | assumption | omega) (by first | assumption | omega) (by first | assumption | omega) _) (cwV 3 hts h_L_law_15 rfl rfl rfl (by decide +kernel) ⟨Nat.le_of_ble_eq_true rfl, Nat.le_of_ble_eq_true rfl⟩) (fPvB [(q_1, .inl (kA 0, 4, .inl fr2))] (hbe) hK hP hD hS hG hF) rfl rfl hl.1 rfl (lv_room (Nat.le_of_ble_eq_true rfl)) dL_law_302 ⟨(Nat.le_trans (Nat.add_le_add_right (show 110 + ti + 1 ≤ 600086 by omega) _) (Nat.le_of_ble_eq_true rfl)), (Nat.le_trans (Nat.add_le_add_right (show 14000 + 4 * ti + 4 ≤ 7301442 by omega) _) (Nat.le_of_ble_eq_true rfl))⟩) hS (fun q _ h => hF q h) hF (fun r_29 w1 t H locs ht hvm hw hB hz1 hk1 hS => ?_)
      obtain ⟨hP, hD⟩ := chJ [(q_1, .inl (kA 0, 4, .inl fr2))] hP hD hk1 hF ht hB
      try dsimp only at hw
      obtain ⟨rfl, e_28⟩ := hw
      have hP : va_P D vwCl ([(q_1, .inl (kA 0, 4, .inl fr2))] ++ wB kA Bn) H := hP
      have hD : va_D A ([(q_1, .inl (kA 0, 4, .inl fr2))] ++ wB kA Bn) := hD
      refine W.eq (g2 := F0 m 305 ls [.int (nI (B.2 2))]) (by rw [show r_29 = nI (B.2 2) from by rw [e_28, hBk]; exact (wr_new q_2 (Nat.le_refl _) (by omega)).1]) ?_
      refine lv_aload_n hx hb dL_law_305 rfl (lv_at hl 12 rfl) ?_
      refine lv_iconst (v := nI 1) hx hb dL_law_306 (by decide) ?_
      have hF := chF [(q_1, .inl (kA 0, 4, .inl fr2))] hD hS hA
      refine va_calli (va_runV (As := [.int (nI 1)]) (rest := [.int (nI (B.2 2))]) ⟨hx, hb, hml, hown, hts⟩ (c_X6_many_B1 l D kA z Bn ra_1 (by first | assumption | omega) (by first | assumption | omega) _) (cwV 1 hts h_L_law_13 rfl rfl rfl (by decide +kernel) ⟨Nat.le_of_ble_eq_true rfl, Nat.le_of_ble_eq_true rfl⟩) (fPvB [(q_1, .inl (kA 0, 4, .inl fr2))] (hbe) hK hP hD hS hG hF) rfl rfl hl.1 rfl (lv_room (Nat.le_of_ble_eq_true rfl)) dL_law_307 ⟨(Nat.le_trans (Nat.add_le_add_right (show 110 + ti + 1 ≤ 600086 by omega) _) (Nat.le_of_ble_eq_true rfl)), (Nat.le_trans (Nat.add_le_add_right (show 14000 + 4 * ti + 4 ≤ 7301442 by omega) _) (Nat.le_of_ble_eq_true rfl))⟩) hS (fun q _ h => hF q h) hF (fun r_30 w1 t H locs ht hvm hw hB hz1 hk1 hS => ?_)
      obtain ⟨hP, hD⟩ := chJ [(q_1, .inl (kA 0, 4, .inl fr2))] hP hD hk1 hF ht hB
      try dsimp only at hw
      obtain ⟨rfl, e_29⟩ := hw
      replace e_29 := e_29.symm
      subst e_29
      have hP : va_P D vwCl ([(q_1, .inl (kA 0, 4, .inl fr2))] ++ wB kA Bn) H := hP
      have hD : va_D A ([(q_1, .inl (kA 0, 4, .inl fr2))] ++ wB kA Bn) := hD
      refine lv_icmp_ne (tgt := 345) hx hb dL_law_310 (by decide) (fun c310 => False.elim (by rw [qeq (a := (B.2 2)) (b := (Bn.2 2)) (by omega) (by omega)] at c310; omega)) (fun _ => ?_)
      refine lv_aload_n hx hb dL_law_313 rfl (lv_at hl 12 rfl) ?_
      refine lv_iload hx hb dL_law_314 (lv_at hl 6 rfl) ?_
      refine lv_aload hx hb dL_law_316 (lv_at hl 1 rfl) ?_
      refine lv_iload hx hb dL_law_318 (lv_at hl 6 rfl) ?_
      refine va_iald hx hb hK hP 0 0 rfl rfl (vp_in_nI (n := k) (by omega) (by decide)) dL_law_320 ?_
      rw [nI_clamp (n := k) (by omega)]
      refine W.eq (g2 := F0 m 321 ls [.int (nI (nn (B.1 k) 5 + cb)), .int (nI k), .ref ra_1]) (by rw [show fr2 k = nI (nn (B.1 k) 5 + cb) from hf2k]) ?_
      refine lv_iconst (v := nI 1) hx hb dL_law_321 (by decide) ?_
      refine lv_isub hx hb dL_law_322 ?_
      rw [pk_sub (a := (nn (B.1 k) 5 + cb)) (b := 1) (by omega)]
      refine lv_iconst (v := nI 2) hx hb dL_law_323 (by decide) ?_
      have hF := chF [(q_1, .inl (kA 0, 4, .inl fr2))] hD hS hA
      refine va_calli (va_runV (As := [.int (nI k), .int (nI (nn (B.1 k) 5 + cb - 1)), .int (nI 2)]) (rest := []) ⟨hx, hb, hml, hown, hts⟩ (c_X6_ofCell_B2 l D kA z Bn ra_1 k (nn (B.1 k) 5 + cb - 1) (by first | assumption | omega) (by first | assumption | omega) (by first | assumption | omega) (by first | assumption | omega) _) (cwV 3 hts h_L_law_16 rfl rfl rfl (by decide +kernel) ⟨Nat.le_of_ble_eq_true rfl, Nat.le_of_ble_eq_true rfl⟩) (fPvB [(q_1, .inl (kA 0, 4, .inl fr2))] (hbe) hK hP hD hS hG hF) rfl rfl hl.1 rfl (lv_room (Nat.le_of_ble_eq_true rfl)) dL_law_324 ⟨(Nat.le_trans (Nat.add_le_add_right (show 110 + ti + 1 ≤ 600086 by omega) _) (Nat.le_of_ble_eq_true rfl)), (Nat.le_trans (Nat.add_le_add_right (show 14000 + 4 * ti + 4 ≤ 7301442 by omega) _) (Nat.le_of_ble_eq_true rfl))⟩) hS (fun q _ h => hF q h) hF (fun r_31 w1 t H locs ht hvm hw hB hz1 hk1 hS => ?_)
      obtain ⟨hP, hD⟩ := chJ [(q_1, .inl (kA 0, 4, .inl fr2))] hP hD hk1 hF ht hB
      try dsimp only at hw
      obtain ⟨rfl, e_30⟩ := hw
      replace e_30 := e_30.symm
      subst e_30
      have hP : va_P D vwCl ([(q_1, .inl (kA 0, 4, .inl fr2))] ++ wB kA Bn) H := hP
      have hD : va_D A ([(q_1, .inl (kA 0, 4, .inl fr2))] ++ wB kA Bn) := hD
      refine W.eq (g2 := F0 m 327 ls [.int (nI 0)]) (by rw [show nI (if rw' (Bn.1 k) 2 (nn (B.1 k) 5 + cb - 1) = nI 0 then 0 else 1) = nI 0 from by rw [hBk]; exact congrArg nI (if_pos (wr_new q_2 (j := nn (B.1 k) 5 + cb - 1) (by omega) (by omega)).2.1)]) ?_
      refine lv_aload_n hx hb dL_law_327 rfl (lv_at hl 12 rfl) ?_
      refine lv_iload hx hb dL_law_328 (lv_at hl 6 rfl) ?_
      refine lv_aload hx hb dL_law_330 (lv_at hl 1 rfl) ?_
      refine lv_iload hx hb dL_law_332 (lv_at hl 6 rfl) ?_
      refine va_iald hx hb hK hP 0 0 rfl rfl (vp_in_nI (n := k) (by omega) (by decide)) dL_law_334 ?_
      rw [nI_clamp (n := k) (by omega)]
      refine W.eq (g2 := F0 m 335 ls [.int (nI (nn (B.1 k) 5 + cb)), .int (nI k), .ref ra_1, .int (nI 0)]) (by rw [show fr2 k = nI (nn (B.1 k) 5 + cb) from hf2k]) ?_
      refine lv_iconst (v := nI 1) hx hb dL_law_335 (by decide) ?_
      refine lv_isub hx hb dL_law_336 ?_
      rw [pk_sub (a := (nn (B.1 k) 5 + cb)) (b := 1) (by omega)]
      refine lv_iconst (v := nI 3) hx hb dL_law_337 (by decide) ?_
      have hF := chF [(q_1, .inl (kA 0, 4, .inl fr2))] hD hS hA
      refine va_calli (va_runV (As := [.int (nI k), .int (nI (nn (B.1 k) 5 + cb - 1)), .int (nI 3)]) (rest := [.int (nI 0)]) ⟨hx, hb, hml, hown, hts⟩ (c_X6_ofCell_B3 l D kA z Bn ra_1 k (nn (B.1 k) 5 + cb - 1) (by first | assumption | omega) (by first | assumption | omega) (by first | assumption | omega) (by first | assumption | omega) _) (cwV 3 hts h_L_law_17 rfl rfl rfl (by decide +kernel) ⟨Nat.le_of_ble_eq_true rfl, Nat.le_of_ble_eq_true rfl⟩) (fPvB [(q_1, .inl (kA 0, 4, .inl fr2))] (hbe) hK hP hD hS hG hF) rfl rfl hl.1 rfl (lv_room (Nat.le_of_ble_eq_true rfl)) dL_law_338 ⟨(Nat.le_trans (Nat.add_le_add_right (show 110 + ti + 1 ≤ 600086 by omega) _) (Nat.le_of_ble_eq_true rfl)), (Nat.le_trans (Nat.add_le_add_right (show 14000 + 4 * ti + 4 ≤ 7301442 by omega) _) (Nat.le_of_ble_eq_true rfl))⟩) hS (fun q _ h => hF q h) hF (fun r_32 w1 t H locs ht hvm hw hB hz1 hk1 hS => ?_)
      obtain ⟨hP, hD⟩ := chJ [(q_1, .inl (kA 0, 4, .inl fr2))] hP hD hk1 hF ht hB
      try dsimp only at hw
      obtain ⟨rfl, e_31⟩ := hw
      replace e_31 := e_31.symm
      subst e_31
      have hP : va_P D vwCl ([(q_1, .inl (kA 0, 4, .inl fr2))] ++ wB kA Bn) H := hP
      have hD : va_D A ([(q_1, .inl (kA 0, 4, .inl fr2))] ++ wB kA Bn) := hD
      refine W.eq (g2 := F0 m 341 ls [.int (nI 0), .int (nI 0)]) (by rw [show nI (dT (rw' (Bn.1 k) 3 (nn (B.1 k) 5 + cb - 1))) = nI 0 from by rw [hBk]; exact congrArg nI (dT_0 (wr_new q_2 (j := nn (B.1 k) 5 + cb - 1) (by omega) (by omega)).2.2)]) ?_
      refine lv_iadd hx hb dL_law_341 ?_
      rw [show nI 0 + nI 0 = nI 0 from by decide]
      refine lv_if_eq (tgt := 1067) hx hb dL_law_342 (by decide) (fun _ => ?_) (fun c342 => absurd (by decide) c342)
      exact jn_1067 Bn fr2 (B.2 3) m4 m5 m6 trivial hbe (hLn.le (by omega)) hfn (by omega) (by omega) (by omega) (by omega) _ _ _ hP hD hS (lv_sub hl [3, 9, 10, 11, 1, 8, 12, 13] rfl)
    ·
      rw [qle (a := (nn (B.1 k) 5 + cb)) (b := 400) (by omega) (by omega)] at c256
      refine lv_goto (tgt := 1067) hx hb dL_law_259 (by decide) ?_
      exact jn_1067 B fro (B.2 3) m4 m5 m6 trivial hbe (hL.le (by omega)) hfro (by omega) (by omega) (by omega) (by omega) _ _ _ hP hD hS (lv_sub hl [3, 9, 10, 11, 1, 8, 12, 13] rfl)
  refine lv_icmp_ne (tgt := 244) hx hb dL_law_236 (by decide) (fun c236 => ?_) (fun c236 => ?_)
  ·
    rw [qeq (a := (nn (B.1 k) 0)) (b := 2) (by omega) (by omega)] at c236
    refine lv_bipush (v := nI 16) hx hb dL_law_244 (by decide) ?_
    exact jn_246 16 trivial (by first | exact (cB_2 (c := nn (B.1 k) 0) (by omega)).symm | exact (cB_n (c := nn (B.1 k) 0) (by omega)).symm) _ _ _ hP hD hS (lv_sub hl [0, 1, 2, 3, 4, 5, 6, 7, 8, 9, 10, 11, 12] rfl)
  ·
    rw [qeq (a := (nn (B.1 k) 0)) (b := 2) (by omega) (by omega)] at c236
    refine lv_bipush (v := nI 10) hx hb dL_law_239 (by decide) ?_
    refine lv_goto (tgt := 246) hx hb dL_law_241 (by decide) ?_
    exact jn_246 10 trivial (by first | exact (cB_2 (c := nn (B.1 k) 0) (by omega)).symm | exact (cB_n (c := nn (B.1 k) 0) (by omega)).symm) _ _ _ hP hD hS (lv_sub hl [0, 1, 2, 3, 4, 5, 6, 7, 8, 9, 10, 11, 12] rfl)
set_option maxHeartbeats 4000000 in
set_option maxRecDepth 100000 in
theorem cL_3 (l : Launch) (D : va_G) (kA : Nat → ClassId) (z : Nat) (hfl : l.stackTraces = false) {p : Program} {e : Env} {s : State} {m : MethodId} {args : Array Value} {below : List Frame} {meth : Method} {c : Code} {A : Nat → Prop} {ls0 : Array Slot} (hE : fE p s m args meth c D (tyL kA) z wq_L_law RL cL_law 16 (some .boolean) [.ref z] [] A ls0) (hargs : args = #[Value.ref z]) (hA2 : ∀ q : Nat, A q → s.heap.size ≤ q) (ti : Nat) (ra_1 : Nat) (q_1 : Nat) (B : BS) (m4 : Nat) (m5 : Nat) (m6 : Nat) (k : Nat) (x6 : Int32) (fro : Nat → Int32) (hti4 : ti < 40) (hbe : B.2 0 = ra_1) (hL : LI B (ti + 4)) (hm4 : m4 = B.2 4) (hm5 : m5 = B.2 5) (hm6 : m6 = B.2 6) (hk : k < 4) (hfro : ∀ q, q < 4 → fro q = nI (nn (B.1 q) 5)) (jn_1067 : ∀ (B9 : BS) (fr9 : Nat → Int32) (d9 : Nat) (m49 : Nat) (m59 : Nat) (m69 : Nat) (_ : True), (B9.2 0 = ra_1) → (LI B9 (ti + 5)) → (∀ q, q < 4 → fr9 q = nI (nn (B9.1 q) 5)) → (d9 = B9.2 3) → (m49 = B9.2 4) → (m59 = B9.2 5) → (m69 = B9.2 6) → ∀ (H : Heap) (locs : List Loc) (ls : Array Slot), va_P D vwCl ([(q_1, .inl (kA 0, 4, .inl fr9))] ++ wB kA B9) H → va_D A ([(q_1, .inl (kA 0, 4, .inl fr9))] ++ wB kA B9) → va_S A s.heap H locs → lv_has ls 16 [(10, .int (nI d9)), (4, .int (nI m69)), (3, .int (nI m59)), (2, .int (nI m49)), (12, .ref q_1), (5, .int (nI ti)), (1, .ref ra_1), (0, .ref z)] → W p l e room_1 s m args below meth c H locs (110 + ti + 1) (14000 + 4 * ti + 4) (lw_Z below args s) (F0 m 1067 ls [])) (H : Heap) (locs : List Loc) (ls : Array Slot) (hP : va_P D vwCl ([(q_1, .inl (kA 0, 4, .inl fro))] ++ wB kA B) H) (hD : va_D A ([(q_1, .inl (kA 0, 4, .inl fro))] ++ wB kA B)) (hS : va_S A s.heap H locs) (hl : lv_has ls 16 [(12, .ref q_1), (11, .int (nI (shB B))), (10, .int (nI (B.2 3))), (9, .int (nI (nn (B.1 k) 0))), (8, .int (nI (nn (B.1 k) 5))), (7, .int (nI k)), (6, .int x6), (5, .int (nI ti)), (4, .int (nI m6)), (3, .int (nI m5)), (2, .int (nI m4)), (1, .ref ra_1), (0, .ref z)]) : W p l e room_1 s m args below meth c H locs (110 + ti + 1) (14000 + 4 * ti + 4) (lw_Z below args s) (F0 m 347 ls []) := by
  obtain ⟨hx, hb, hr, hml, hts, hown, hlocks, hA, -, -, hK, -, hG, -⟩ := hE
  have hH : s.heap = s.heap := rfl
  have hI := hL.1
  have hl42 := hL.2.2.1
  have hl52 := hL.2.2.2.1
  have hl62 := hL.2.2.2.2
  have iT := hI.1 k hk
  have hn4 := iT.2.2.2.1
  have hn1 := iT.2.1
  have hc2 := iT.1
  have h34 := hL.2.1 k hk
  have hsk := shS_le (B := B) hk
  have hB4 := shB_le hI
  have hsp0 := hI.2.2.1
  have hdw0 := hI.2.2.2
  refine lv_iload hx hb dL_law_347 (lv_at hl 4 rfl) ?_
  refine lv_sipush (v := nI 390) hx hb dL_law_349 (by decide) ?_
  refine lv_icmp_le (tgt := 358) hx hb dL_law_352 (by decide) (fun c352 => ?_) (fun c352 => ?_)
  ·
    rw [qle (a := (nn (B.1 k) 5)) (b := 390) (by omega) (by omega)] at c352
    refine lv_aload hx hb dL_law_358 (lv_at hl 0 rfl) ?_
    refine lv_iload hx hb dL_law_360 (lv_at hl 5 rfl) ?_
    refine lv_dup2_11 hx hb dL_law_362 rfl rfl ?_
    refine va_iald hx hb hK hP 0 0 rfl rfl (vp_in_nI (n := k) (by omega) (by decide)) dL_law_363 ?_
    rw [nI_clamp (n := k) (by omega)]
    refine W.eq (g2 := F0 m 364 ls [.int (nI (nn (B.1 k) 5)), .int (nI k), .ref q_1]) (by rw [show fro k = nI (nn (B.1 k) 5) from hfro k hk]) ?_
    refine lv_bipush (v := nI 10) hx hb dL_law_364 (by decide) ?_
    refine lv_iadd hx hb dL_law_366 ?_
    rw [nI_add (nn (B.1 k) 5) 10]
    refine va_iast hx hb hK hP hD hS 0 0 rfl rfl (vp_in_nI (n := k) (by omega) (by decide)) dL_law_367 (fun H locs hP hD hS => ?_)
    rw [nI_clamp (n := k) (by omega)] at hP hD
    have hP : va_P D vwCl ([(q_1, .inl (kA 0, 4, .inl (upd fro k (nI (nn (B.1 k) 5 + 10)))))] ++ wB kA B) H := hP
    have hD : va_D A ([(q_1, .inl (kA 0, 4, .inl (upd fro k (nI (nn (B.1 k) 5 + 10)))))] ++ wB kA B) := hD
    refine lv_aload_n hx hb dL_law_368 rfl (lv_at hl 11 rfl) ?_
    refine lv_iload hx hb dL_law_369 (lv_at hl 5 rfl) ?_
    have hF := chF [(q_1, .inl (kA 0, 4, .inl (upd fro k (nI (nn (B.1 k) 5 + 10)))))] hD hS hA
    refine va_calli (va_runV (As := [.int (nI k)]) (rest := []) ⟨hx, hb, hml, hown, hts⟩ (c_X6_mark_B l D kA z B ra_1 k (by first | assumption | omega) (by first | assumption | omega) (by first | assumption | omega) (by first | assumption | omega) _) (cwV 1 hts h_L_law_18 rfl rfl rfl (by decide +kernel) ⟨Nat.le_of_ble_eq_true rfl, Nat.le_of_ble_eq_true rfl⟩) (fPvB [(q_1, .inl (kA 0, 4, .inl (upd fro k (nI (nn (B.1 k) 5 + 10)))))] (hbe) hK hP hD hS hG hF) rfl rfl hl.1 rfl (lv_room (Nat.le_of_ble_eq_true rfl)) dL_law_371 ⟨(Nat.le_trans (Nat.add_le_add_right (show 110 + ti + 1 ≤ 600086 by omega) _) (Nat.le_of_ble_eq_true rfl)), (Nat.le_trans (Nat.add_le_add_right (show 14000 + 4 * ti + 4 ≤ 7301442 by omega) _) (Nat.le_of_ble_eq_true rfl))⟩) hS (fun q _ h => hF q h) hF (fun r_33 w1 t H locs ht hvm hw hB hz1 hk1 hS => ?_)
    obtain ⟨hP, hD⟩ := chJ [(q_1, .inl (kA 0, 4, .inl (upd fro k (nI (nn (B.1 k) 5 + 10)))))] hP hD hk1 hF ht hB
    try dsimp only at hw
    obtain ⟨S_2, rfl, e_32, q_3, m_1, m_2, m_3⟩ := hw
    replace e_32 := e_32.symm
    subst e_32
    have hP : va_P D vwCl ([(q_1, .inl (kA 0, 4, .inl (upd fro k (nI (nn (B.1 k) 5 + 10)))))] ++ wB kA (uP B.1 k S_2, B.2)) H := hP
    have hD : va_D A ([(q_1, .inl (kA 0, 4, .inl (upd fro k (nI (nn (B.1 k) 5 + 10)))))] ++ wB kA (uP B.1 k S_2, B.2)) := hD
    obtain ⟨Bn, hBn⟩ : ∃ X : BS, X = (uP B.1 k S_2, B.2) := ⟨_, rfl⟩
    rw [← hBn] at hP hD
    have hBk : Bn.1 k = S_2 := (congrArg (fun X : BS => X.1 k) hBn).trans (uP_at _ _ _)
    have hM0 : Bn.2 0 = B.2 0 := (congrArg (fun X : BS => X.2 0) hBn).trans (rfl)
    have hM2 : Bn.2 2 = B.2 2 := (congrArg (fun X : BS => X.2 2) hBn).trans (rfl)
    have hM3 : Bn.2 3 = B.2 3 := (congrArg (fun X : BS => X.2 3) hBn).trans (rfl)
    have hM4 : Bn.2 4 = B.2 4 := (congrArg (fun X : BS => X.2 4) hBn).trans (rfl)
    have hM5 : Bn.2 5 = B.2 5 := (congrArg (fun X : BS => X.2 5) hBn).trans (rfl)
    have hM6 : Bn.2 6 = B.2 6 := (congrArg (fun X : BS => X.2 6) hBn).trans (rfl)
    have hbe : Bn.2 0 = ra_1 := hM0.trans hbe
    have hLn : LI Bn (ti + 4) := by rw [hBn]; exact LI_T hL hk q_3.1 (q_3.2.1 3 (by decide))
    have hI := hLn.1
    have hsp1 := hI.2.2.1
    have hn5 : nn (Bn.1 k) 5 = _ := (congrArg (fun X => nn X 5) hBk).trans q_3.2.2.1
    obtain ⟨fr2, hfr2⟩ : ∃ X : Nat → Int32, X = upd fro k (nI (nn (B.1 k) 5 + 10)) := ⟨_, rfl⟩
    rw [← hfr2] at hP hD
    have hf2k : fr2 k = nI (nn (B.1 k) 5 + 10) := by rw [hfr2]; exact upd_at _ _ _
    have hfn : ∀ q, q < 4 → fr2 q = nI (nn (Bn.1 q) 5) := by rw [hfr2, hBn]; exact fr_up hfro (q_3.2.2.1.trans (rfl))
    have hP : va_P D vwCl ([(q_1, .inl (kA 0, 4, .inl fr2))] ++ wB kA Bn) H := hP
    have hD : va_D A ([(q_1, .inl (kA 0, 4, .inl fr2))] ++ wB kA Bn) := hD
    refine lv_aload hx hb dL_law_374 (lv_at hl 0 rfl) ?_
    refine lv_iload hx hb dL_law_376 (lv_at hl 5 rfl) ?_
    refine va_iald hx hb hK hP 0 0 rfl rfl (vp_in_nI (n := k) (by omega) (by decide)) dL_law_378 ?_
    rw [nI_clamp (n := k) (by omega)]
    refine W.eq (g2 := F0 m 379 ls [.int (nI (nn (B.1 k) 5 + 10)), .int (nI (nn (B.1 k) 5 + 10))]) (by rw [show fr2 k = nI (nn (B.1 k) 5 + 10) from hf2k]) ?_
    refine lv_icmp_ne (tgt := 425) hx hb dL_law_379 (by decide) (fun c379 => False.elim (by rw [qeq (a := (nn (B.1 k) 5 + 10)) (b := (nn (B.1 k) 5 + 10)) (by omega) (by omega)] at c379; omega)) (fun _ => ?_)
    refine lv_aload_n hx hb dL_law_382 rfl (lv_at hl 11 rfl) ?_
    refine lv_iload hx hb dL_law_383 (lv_at hl 5 rfl) ?_
    refine lv_iload hx hb dL_law_385 (lv_at hl 4 rfl) ?_
    refine lv_iconst (v := nI 0) hx hb dL_law_387 (by decide) ?_
    have hF := chF [(q_1, .inl (kA 0, 4, .inl fr2))] hD hS hA
    refine va_calli (va_runV (As := [.int (nI k), .int (nI (nn (B.1 k) 5)), .int (nI 0)]) (rest := []) ⟨hx, hb, hml, hown, hts⟩ (c_X6_ofCell_B0 l D kA z Bn ra_1 k (nn (B.1 k) 5) (by first | assumption | omega) (by first | assumption | omega) (by first | assumption | omega) (by first | assumption | omega) _) (cwV 3 hts h_L_law_19 rfl rfl rfl (by decide +kernel) ⟨Nat.le_of_ble_eq_true rfl, Nat.le_of_ble_eq_true rfl⟩) (fPvB [(q_1, .inl (kA 0, 4, .inl fr2))] (hbe) hK hP hD hS hG hF) rfl rfl hl.1 rfl (lv_room (Nat.le_of_ble_eq_true rfl)) dL_law_388 ⟨(Nat.le_trans (Nat.add_le_add_right (show 110 + ti + 1 ≤ 600086 by omega) _) (Nat.le_of_ble_eq_true rfl)), (Nat.le_trans (Nat.add_le_add_right (show 14000 + 4 * ti + 4 ≤ 7301442 by omega) _) (Nat.le_of_ble_eq_true rfl))⟩) hS (fun q _ h => hF q h) hF (fun r_34 w1 t H locs ht hvm hw hB hz1 hk1 hS => ?_)
    obtain ⟨hP, hD⟩ := chJ [(q_1, .inl (kA 0, 4, .inl fr2))] hP hD hk1 hF ht hB
    try dsimp only at hw
    obtain ⟨rfl, e_33⟩ := hw
    have hP : va_P D vwCl ([(q_1, .inl (kA 0, 4, .inl fr2))] ++ wB kA Bn) H := hP
    have hD : va_D A ([(q_1, .inl (kA 0, 4, .inl fr2))] ++ wB kA Bn) := hD
    refine W.eq (g2 := F0 m 391 ls [.int (nI 1)]) (by rw [show r_34 = nI 1 from by rw [e_33, hBk]; exact m_1]) ?_
    refine lv_iconst (v := nI 1) hx hb dL_law_391 (by decide) ?_
    refine lv_icmp_ne (tgt := 425) hx hb dL_law_392 (by decide) (fun c392 => absurd (by decide) c392) (fun _ => ?_)
    refine lv_aload_n hx hb dL_law_395 rfl (lv_at hl 11 rfl) ?_
    refine lv_iload hx hb dL_law_396 (lv_at hl 5 rfl) ?_
    refine lv_iload hx hb dL_law_398 (lv_at hl 4 rfl) ?_
    refine lv_iconst (v := nI 4) hx hb dL_law_400 (by decide) ?_
    refine lv_iadd hx hb dL_law_401 ?_
    rw [nI_add (nn (B.1 k) 5) 4]
    refine lv_iconst (v := nI 0) hx hb dL_law_402 (by decide) ?_
    have hF := chF [(q_1, .inl (kA 0, 4, .inl fr2))] hD hS hA
    refine va_calli (va_runV (As := [.int (nI k), .int (nI (nn (B.1 k) 5 + 4)), .int (nI 0)]) (rest := []) ⟨hx, hb, hml, hown, hts⟩ (c_X6_ofCell_B0 l D kA z Bn ra_1 k (nn (B.1 k) 5 + 4) (by first | assumption | omega) (by first | assumption | omega) (by first | assumption | omega) (by first | assumption | omega) _) (cwV 3 hts h_L_law_19 rfl rfl rfl (by decide +kernel) ⟨Nat.le_of_ble_eq_true rfl, Nat.le_of_ble_eq_true rfl⟩) (fPvB [(q_1, .inl (kA 0, 4, .inl fr2))] (hbe) hK hP hD hS hG hF) rfl rfl hl.1 rfl (lv_room (Nat.le_of_ble_eq_true rfl)) dL_law_403 ⟨(Nat.le_trans (Nat.add_le_add_right (show 110 + ti + 1 ≤ 600086 by omega) _) (Nat.le_of_ble_eq_true rfl)), (Nat.le_trans (Nat.add_le_add_right (show 14000 + 4 * ti + 4 ≤ 7301442 by omega) _) (Nat.le_of_ble_eq_true rfl))⟩) hS (fun q _ h => hF q h) hF (fun r_35 w1 t H locs ht hvm hw hB hz1 hk1 hS => ?_)
    obtain ⟨hP, hD⟩ := chJ [(q_1, .inl (kA 0, 4, .inl fr2))] hP hD hk1 hF ht hB
    try dsimp only at hw
    obtain ⟨rfl, e_34⟩ := hw
    have hP : va_P D vwCl ([(q_1, .inl (kA 0, 4, .inl fr2))] ++ wB kA Bn) H := hP
    have hD : va_D A ([(q_1, .inl (kA 0, 4, .inl fr2))] ++ wB kA Bn) := hD
    refine W.eq (g2 := F0 m 406 ls [.int (nI 0)]) (by rw [show r_35 = nI 0 from by rw [e_34, hBk]; exact m_2]) ?_
    refine lv_if_ne (tgt := 425) hx hb dL_law_406 (by decide) (fun c406 => absurd (by decide) c406) (fun _ => ?_)
    refine lv_aload_n hx hb dL_law_409 rfl (lv_at hl 11 rfl) ?_
    refine lv_iload hx hb dL_law_410 (lv_at hl 5 rfl) ?_
    refine lv_iload hx hb dL_law_412 (lv_at hl 4 rfl) ?_
    refine lv_bipush (v := nI 9) hx hb dL_law_414 (by decide) ?_
    refine lv_iadd hx hb dL_law_416 ?_
    rw [nI_add (nn (B.1 k) 5) 9]
    refine lv_iconst (v := nI 0) hx hb dL_law_417 (by decide) ?_
    have hF := chF [(q_1, .inl (kA 0, 4, .inl fr2))] hD hS hA
    refine va_calli (va_runV (As := [.int (nI k), .int (nI (nn (B.1 k) 5 + 9)), .int (nI 0)]) (rest := []) ⟨hx, hb, hml, hown, hts⟩ (c_X6_ofCell_B0 l D kA z Bn ra_1 k (nn (B.1 k) 5 + 9) (by first | assumption | omega) (by first | assumption | omega) (by first | assumption | omega) (by first | assumption | omega) _) (cwV 3 hts h_L_law_19 rfl rfl rfl (by decide +kernel) ⟨Nat.le_of_ble_eq_true rfl, Nat.le_of_ble_eq_true rfl⟩) (fPvB [(q_1, .inl (kA 0, 4, .inl fr2))] (hbe) hK hP hD hS hG hF) rfl rfl hl.1 rfl (lv_room (Nat.le_of_ble_eq_true rfl)) dL_law_418 ⟨(Nat.le_trans (Nat.add_le_add_right (show 110 + ti + 1 ≤ 600086 by omega) _) (Nat.le_of_ble_eq_true rfl)), (Nat.le_trans (Nat.add_le_add_right (show 14000 + 4 * ti + 4 ≤ 7301442 by omega) _) (Nat.le_of_ble_eq_true rfl))⟩) hS (fun q _ h => hF q h) hF (fun r_36 w1 t H locs ht hvm hw hB hz1 hk1 hS => ?_)
    obtain ⟨hP, hD⟩ := chJ [(q_1, .inl (kA 0, 4, .inl fr2))] hP hD hk1 hF ht hB
    try dsimp only at hw
    obtain ⟨rfl, e_35⟩ := hw
    have hP : va_P D vwCl ([(q_1, .inl (kA 0, 4, .inl fr2))] ++ wB kA Bn) H := hP
    have hD : va_D A ([(q_1, .inl (kA 0, 4, .inl fr2))] ++ wB kA Bn) := hD
    refine W.eq (g2 := F0 m 421 ls [.int (nI 1)]) (by rw [show r_36 = nI 1 from by rw [e_35, hBk]; exact m_3]) ?_
    refine lv_iconst (v := nI 1) hx hb dL_law_421 (by decide) ?_
    refine lv_icmp_eq (tgt := 1067) hx hb dL_law_422 (by decide) (fun _ => ?_) (fun c422 => absurd (by decide) c422)
    exact jn_1067 Bn fr2 (B.2 3) m4 m5 m6 trivial hbe (hLn.le (by omega)) hfn (by omega) (by omega) (by omega) (by omega) _ _ _ hP hD hS (lv_sub hl [2, 8, 9, 10, 0, 7, 11, 12] rfl)
  ·
    rw [qle (a := (nn (B.1 k) 5)) (b := 390) (by omega) (by omega)] at c352
    refine lv_goto (tgt := 1067) hx hb dL_law_355 (by decide) ?_
    exact jn_1067 B fro (B.2 3) m4 m5 m6 trivial hbe (hL.le (by omega)) hfro (by omega) (by omega) (by omega) (by omega) _ _ _ hP hD hS (lv_sub hl [2, 8, 9, 10, 0, 7, 11, 12] rfl)
set_option maxHeartbeats 4000000 in
set_option maxRecDepth 100000 in
theorem cL_4 (l : Launch) (D : va_G) (kA : Nat → ClassId) (z : Nat) (hfl : l.stackTraces = false) {p : Program} {e : Env} {s : State} {m : MethodId} {args : Array Value} {below : List Frame} {meth : Method} {c : Code} {A : Nat → Prop} {ls0 : Array Slot} (hE : fE p s m args meth c D (tyL kA) z wq_L_law RL cL_law 16 (some .boolean) [.ref z] [] A ls0) (hargs : args = #[Value.ref z]) (hA2 : ∀ q : Nat, A q → s.heap.size ≤ q) (ti : Nat) (ra_1 : Nat) (q_1 : Nat) (B : BS) (m4 : Nat) (m5 : Nat) (m6 : Nat) (k : Nat) (x6 : Int32) (fro : Nat → Int32) (hti4 : ti < 40) (hbe : B.2 0 = ra_1) (hL : LI B (ti + 4)) (hm4 : m4 = B.2 4) (hm5 : m5 = B.2 5) (hm6 : m6 = B.2 6) (hk : k < 4) (hfro : ∀ q, q < 4 → fro q = nI (nn (B.1 q) 5)) (jn_1067 : ∀ (B9 : BS) (fr9 : Nat → Int32) (d9 : Nat) (m49 : Nat) (m59 : Nat) (m69 : Nat) (_ : True), (B9.2 0 = ra_1) → (LI B9 (ti + 5)) → (∀ q, q < 4 → fr9 q = nI (nn (B9.1 q) 5)) → (d9 = B9.2 3) → (m49 = B9.2 4) → (m59 = B9.2 5) → (m69 = B9.2 6) → ∀ (H : Heap) (locs : List Loc) (ls : Array Slot), va_P D vwCl ([(q_1, .inl (kA 0, 4, .inl fr9))] ++ wB kA B9) H → va_D A ([(q_1, .inl (kA 0, 4, .inl fr9))] ++ wB kA B9) → va_S A s.heap H locs → lv_has ls 16 [(10, .int (nI d9)), (4, .int (nI m69)), (3, .int (nI m59)), (2, .int (nI m49)), (12, .ref q_1), (5, .int (nI ti)), (1, .ref ra_1), (0, .ref z)] → W p l e room_1 s m args below meth c H locs (110 + ti + 1) (14000 + 4 * ti + 4) (lw_Z below args s) (F0 m 1067 ls [])) (H : Heap) (locs : List Loc) (ls : Array Slot) (hP : va_P D vwCl ([(q_1, .inl (kA 0, 4, .inl fro))] ++ wB kA B) H) (hD : va_D A ([(q_1, .inl (kA 0, 4, .inl fro))] ++ wB kA B)) (hS : va_S A s.heap H locs) (hl : lv_has ls 16 [(12, .ref q_1), (11, .int (nI (shB B))), (10, .int (nI (B.2 3))), (9, .int (nI (nn (B.1 k) 0))), (8, .int (nI (nn (B.1 k) 5))), (7, .int (nI k)), (6, .int x6), (5, .int (nI ti)), (4, .int (nI m6)), (3, .int (nI m5)), (2, .int (nI m4)), (1, .ref ra_1), (0, .ref z)]) : W p l e room_1 s m args below meth c H locs (110 + ti + 1) (14000 + 4 * ti + 4) (lw_Z below args s) (F0 m 427 ls []) := by
  obtain ⟨hx, hb, hr, hml, hts, hown, hlocks, hA, -, -, hK, -, hG, -⟩ := hE
  have hH : s.heap = s.heap := rfl
  have hI := hL.1
  have hl42 := hL.2.2.1
  have hl52 := hL.2.2.2.1
  have hl62 := hL.2.2.2.2
  have iT := hI.1 k hk
  have hn4 := iT.2.2.2.1
  have hn1 := iT.2.1
  have hc2 := iT.1
  have h34 := hL.2.1 k hk
  have hsk := shS_le (B := B) hk
  have hB4 := shB_le hI
  have hsp0 := hI.2.2.1
  have hdw0 := hI.2.2.2
  refine lv_bipush (v := nI 11) hx hb dL_law_427 (by decide) ?_
  refine lv_iconst (v := nI 4) hx hb dL_law_429 (by decide) ?_
  refine lv_iload hx hb dL_law_430 (lv_at hl 3 rfl) ?_
  have jn_443 : ∀ (cb : Nat) (_ : True), (cb = cB (nn (B.1 k) 0)) → ∀ (H : Heap) (locs : List Loc) (ls : Array Slot), va_P D vwCl ([(q_1, .inl (kA 0, 4, .inl fro))] ++ wB kA B) H → va_D A ([(q_1, .inl (kA 0, 4, .inl fro))] ++ wB kA B) → va_S A s.heap H locs → lv_has ls 16 [(12, .ref q_1), (11, .int (nI (shB B))), (10, .int (nI (B.2 3))), (9, .int (nI (nn (B.1 k) 0))), (8, .int (nI (nn (B.1 k) 5))), (7, .int (nI k)), (6, .int x6), (5, .int (nI ti)), (4, .int (nI m6)), (3, .int (nI m5)), (2, .int (nI m4)), (1, .ref ra_1), (0, .ref z)] → W p l e room_1 s m args below meth c H locs (110 + ti + 1) (14000 + 4 * ti + 4) (lw_Z below args s) (F0 m 443 ls [.int (nI cb), .int (nI 4), .int (nI 11)]) := by
    clear hP hD hS hl
    intro cb _ hcb H locs ls hP hD hS hl
    have hcl := cB_le (nn (B.1 k) 0)
    have hcg := cB_ge (nn (B.1 k) 0)
    refine lv_imul hx hb dL_law_443 ?_
    rw [pk_mul 4 cb]
    refine lv_iadd hx hb dL_law_444 ?_
    rw [nI_add 11 (4 * cb)]
    refine lv_istore (lv' := [(13, .int (nI (11 + (4 * cb)))), (12, .ref q_1), (11, .int (nI (shB B))), (10, .int (nI (B.2 3))), (9, .int (nI (nn (B.1 k) 0))), (8, .int (nI (nn (B.1 k) 5))), (7, .int (nI k)), (6, .int x6), (5, .int (nI ti)), (4, .int (nI m6)), (3, .int (nI m5)), (2, .int (nI m4)), (1, .ref ra_1), (0, .ref z)]) hx hb dL_law_445 hl (by decide) rfl (fun ls hl => ?_)
    refine lv_iload hx hb dL_law_447 (lv_at hl 5 rfl) ?_
    refine lv_iload hx hb dL_law_449 (lv_at hl 0 rfl) ?_
    refine lv_iadd hx hb dL_law_451 ?_
    rw [nI_add (nn (B.1 k) 5) (11 + (4 * cb))]
    refine lv_sipush (v := nI 400) hx hb dL_law_452 (by decide) ?_
    refine lv_icmp_le (tgt := 461) hx hb dL_law_455 (by decide) (fun c455 => ?_) (fun c455 => ?_)
    ·
      rw [qle (a := (nn (B.1 k) 5 + (11 + (4 * cb)))) (b := 400) (by omega) (by omega)] at c455
      refine lv_aload hx hb dL_law_461 (lv_at hl 1 rfl) ?_
      refine lv_iload hx hb dL_law_463 (lv_at hl 6 rfl) ?_
      refine lv_dup2_11 hx hb dL_law_465 rfl rfl ?_
      refine va_iald hx hb hK hP 0 0 rfl rfl (vp_in_nI (n := k) (by omega) (by decide)) dL_law_466 ?_
      rw [nI_clamp (n := k) (by omega)]
      refine W.eq (g2 := F0 m 467 ls [.int (nI (nn (B.1 k) 5)), .int (nI k), .ref q_1]) (by rw [show fro k = nI (nn (B.1 k) 5) from hfro k hk]) ?_
      refine lv_iload hx hb dL_law_467 (lv_at hl 0 rfl) ?_
      refine lv_iadd hx hb dL_law_469 ?_
      rw [nI_add (nn (B.1 k) 5) (11 + (4 * cb))]
      refine va_iast hx hb hK hP hD hS 0 0 rfl rfl (vp_in_nI (n := k) (by omega) (by decide)) dL_law_470 (fun H locs hP hD hS => ?_)
      rw [nI_clamp (n := k) (by omega)] at hP hD
      have hP : va_P D vwCl ([(q_1, .inl (kA 0, 4, .inl (upd fro k (nI (nn (B.1 k) 5 + (11 + (4 * cb)))))))] ++ wB kA B) H := hP
      have hD : va_D A ([(q_1, .inl (kA 0, 4, .inl (upd fro k (nI (nn (B.1 k) 5 + (11 + (4 * cb)))))))] ++ wB kA B) := hD
      refine lv_aload_n hx hb dL_law_471 rfl (lv_at hl 12 rfl) ?_
      refine lv_iload hx hb dL_law_472 (lv_at hl 6 rfl) ?_
      refine lv_iload hx hb dL_law_474 (lv_at hl 7 rfl) ?_
      refine lv_iconst (v := nI 3) hx hb dL_law_476 (by decide) ?_
      refine lv_ishr hx hb dL_law_477 ?_
      refine lv_bipush (v := nI 9) hx hb dL_law_478 (by decide) ?_
      have hF := chF0 hS hA
      refine va_calli (va_runS (As := [.int (x6 >>> ((nI 3) &&& 31)), .int (nI 9)]) (rest := [.int (nI k), .ref ra_1]) ⟨hx, hb, hml, hown, hts⟩ (c_L_below l D kA z (x6 >>> ((nI 3) &&& 31)) 9 (by first | assumption | omega) (by first | assumption | omega) _) (va_cwS 2 hts h_L_law_1 rfl rfl rfl (by decide +kernel) ⟨Nat.le_of_ble_eq_true rfl, Nat.le_of_ble_eq_true rfl⟩) (fPs0 hK hS hG hF) rfl rfl hl.1 rfl (lv_room (Nat.le_of_ble_eq_true rfl)) dL_law_480 ⟨(Nat.le_trans (Nat.add_le_add_right (show 110 + ti + 1 ≤ 600086 by omega) _) (Nat.le_of_ble_eq_true rfl)), (Nat.le_trans (Nat.add_le_add_right (show 14000 + 4 * ti + 4 ≤ 7301442 by omega) _) (Nat.le_of_ble_eq_true rfl))⟩) hS (fun q _ h => hF q h) hF (fun r_37 w1 t H locs ht hvm hw hB hz1 hk1 hS => ?_)
      obtain ⟨hP, hD⟩ := chJ0 hP hD hk1 hF ht hB
      try dsimp only at hw
      obtain ⟨k_6, rfl, e_36, hkq_6⟩ := hw
      rw [List.append_nil] at hP hD
      replace e_36 := e_36.symm
      subst e_36
      have hP : va_P D vwCl ([(q_1, .inl (kA 0, 4, .inl (upd fro k (nI (nn (B.1 k) 5 + (11 + (4 * cb)))))))] ++ wB kA B) H := hP
      have hD : va_D A ([(q_1, .inl (kA 0, 4, .inl (upd fro k (nI (nn (B.1 k) 5 + (11 + (4 * cb)))))))] ++ wB kA B) := hD
      refine lv_iconst (v := nI 1) hx hb dL_law_483 (by decide) ?_
      refine lv_iload hx hb dL_law_484 (lv_at hl 7 rfl) ?_
      refine lv_bipush (v := nI 6) hx hb dL_law_486 (by decide) ?_
      refine lv_ishr hx hb dL_law_488 ?_
      refine lv_sipush (v := nI 256) hx hb dL_law_489 (by decide) ?_
      have hF := chF0 hS hA
      refine va_calli (va_runS (As := [.int (x6 >>> ((nI 6) &&& 31)), .int (nI 256)]) (rest := [.int (nI 1), .int (nI k_6), .int (nI k), .ref ra_1]) ⟨hx, hb, hml, hown, hts⟩ (c_L_below l D kA z (x6 >>> ((nI 6) &&& 31)) 256 (by first | assumption | omega) (by first | assumption | omega) _) (va_cwS 2 hts h_L_law_1 rfl rfl rfl (by decide +kernel) ⟨Nat.le_of_ble_eq_true rfl, Nat.le_of_ble_eq_true rfl⟩) (fPs0 hK hS hG hF) rfl rfl hl.1 rfl (lv_room (Nat.le_of_ble_eq_true rfl)) dL_law_492 ⟨(Nat.le_trans (Nat.add_le_add_right (show 110 + ti + 1 ≤ 600086 by omega) _) (Nat.le_of_ble_eq_true rfl)), (Nat.le_trans (Nat.add_le_add_right (show 14000 + 4 * ti + 4 ≤ 7301442 by omega) _) (Nat.le_of_ble_eq_true rfl))⟩) hS (fun q _ h => hF q h) hF (fun r_38 w1 t H locs ht hvm hw hB hz1 hk1 hS => ?_)
      obtain ⟨hP, hD⟩ := chJ0 hP hD hk1 hF ht hB
      try dsimp only at hw
      obtain ⟨k_7, rfl, e_37, hkq_7⟩ := hw
      rw [List.append_nil] at hP hD
      replace e_37 := e_37.symm
      subst e_37
      have hP : va_P D vwCl ([(q_1, .inl (kA 0, 4, .inl (upd fro k (nI (nn (B.1 k) 5 + (11 + (4 * cb)))))))] ++ wB kA B) H := hP
      have hD : va_D A ([(q_1, .inl (kA 0, 4, .inl (upd fro k (nI (nn (B.1 k) 5 + (11 + (4 * cb)))))))] ++ wB kA B) := hD
      refine lv_iload hx hb dL_law_495 (lv_at hl 7 rfl) ?_
      refine lv_iconst (v := nI 5) hx hb dL_law_497 (by decide) ?_
      refine lv_ishr hx hb dL_law_498 ?_
      refine lv_iconst (v := nI 3) hx hb dL_law_499 (by decide) ?_
      have hF := chF0 hS hA
      refine va_calli (va_runS (As := [.int (x6 >>> ((nI 5) &&& 31)), .int (nI 3)]) (rest := [.int (nI k_7), .int (nI 1), .int (nI k_6), .int (nI k), .ref ra_1]) ⟨hx, hb, hml, hown, hts⟩ (c_L_below l D kA z (x6 >>> ((nI 5) &&& 31)) 3 (by first | assumption | omega) (by first | assumption | omega) _) (va_cwS 2 hts h_L_law_1 rfl rfl rfl (by decide +kernel) ⟨Nat.le_of_ble_eq_true rfl, Nat.le_of_ble_eq_true rfl⟩) (fPs0 hK hS hG hF) rfl rfl hl.1 rfl (lv_room (Nat.le_of_ble_eq_true rfl)) dL_law_500 ⟨(Nat.le_trans (Nat.add_le_add_right (show 110 + ti + 1 ≤ 600086 by omega) _) (Nat.le_of_ble_eq_true rfl)), (Nat.le_trans (Nat.add_le_add_right (show 14000 + 4 * ti + 4 ≤ 7301442 by omega) _) (Nat.le_of_ble_eq_true rfl))⟩) hS (fun q _ h => hF q h) hF (fun r_39 w1 t H locs ht hvm hw hB hz1 hk1 hS => ?_)
      obtain ⟨hP, hD⟩ := chJ0 hP hD hk1 hF ht hB
      try dsimp only at hw
      obtain ⟨k_8, rfl, e_38, hkq_8⟩ := hw
      rw [List.append_nil] at hP hD
      replace e_38 := e_38.symm
      subst e_38
      have hP : va_P D vwCl ([(q_1, .inl (kA 0, 4, .inl (upd fro k (nI (nn (B.1 k) 5 + (11 + (4 * cb)))))))] ++ wB kA B) H := hP
      have hD : va_D A ([(q_1, .inl (kA 0, 4, .inl (upd fro k (nI (nn (B.1 k) 5 + (11 + (4 * cb)))))))] ++ wB kA B) := hD
      have jn_511 : ∀ (rt : Nat) (_ : True), (rt ≤ 1) → ∀ (H : Heap) (locs : List Loc) (ls : Array Slot), va_P D vwCl ([(q_1, .inl (kA 0, 4, .inl (upd fro k (nI (nn (B.1 k) 5 + (11 + (4 * cb)))))))] ++ wB kA B) H → va_D A ([(q_1, .inl (kA 0, 4, .inl (upd fro k (nI (nn (B.1 k) 5 + (11 + (4 * cb)))))))] ++ wB kA B) → va_S A s.heap H locs → lv_has ls 16 [(13, .int (nI (11 + (4 * cb)))), (12, .ref q_1), (11, .int (nI (shB B))), (10, .int (nI (B.2 3))), (9, .int (nI (nn (B.1 k) 0))), (8, .int (nI (nn (B.1 k) 5))), (7, .int (nI k)), (6, .int x6), (5, .int (nI ti)), (4, .int (nI m6)), (3, .int (nI m5)), (2, .int (nI m4)), (1, .ref ra_1), (0, .ref z)] → W p l e room_1 s m args below meth c H locs (110 + ti + 1) (14000 + 4 * ti + 4) (lw_Z below args s) (F0 m 511 ls [.int (nI rt), .int (nI k_7), .int (nI 1), .int (nI k_6), .int (nI k), .ref ra_1]) := by
        clear hP hD hS hl
        intro rt _ hrt1 H locs ls hP hD hS hl
        have hF := chF [(q_1, .inl (kA 0, 4, .inl (upd fro k (nI (nn (B.1 k) 5 + (11 + (4 * cb)))))))] hD hS hA
        refine va_calli (va_runV (As := [.int (nI k), .int (nI k_6), .int (nI 1), .int (nI k_7), .int (nI rt)]) (rest := []) ⟨hx, hb, hml, hown, hts⟩ (c_X6_sector_B l D kA z B ra_1 k k_6 1 k_7 rt (by first | assumption | omega) (by first | assumption | omega) (by first | assumption | omega) (by first | assumption | omega) (by first | assumption | omega) (by first | assumption | omega) (by first | assumption | omega) (by first | assumption | omega) (by first | assumption | omega) _) (cwV 5 hts h_L_law_20 rfl rfl rfl (by decide +kernel) ⟨Nat.le_of_ble_eq_true rfl, Nat.le_of_ble_eq_true rfl⟩) (fPvB [(q_1, .inl (kA 0, 4, .inl (upd fro k (nI (nn (B.1 k) 5 + (11 + (4 * cb)))))))] (hbe) hK hP hD hS hG hF) rfl rfl hl.1 rfl (lv_room (Nat.le_of_ble_eq_true rfl)) dL_law_511 ⟨(Nat.le_trans (Nat.add_le_add_right (show 110 + ti + 1 ≤ 600086 by omega) _) (Nat.le_of_ble_eq_true rfl)), (Nat.le_trans (Nat.add_le_add_right (show 14000 + 4 * ti + 4 ≤ 7301442 by omega) _) (Nat.le_of_ble_eq_true rfl))⟩) hS (fun q _ h => hF q h) hF (fun r_40 w1 t H locs ht hvm hw hB hz1 hk1 hS => ?_)
        obtain ⟨hP, hD⟩ := chJ [(q_1, .inl (kA 0, 4, .inl (upd fro k (nI (nn (B.1 k) 5 + (11 + (4 * cb)))))))] hP hD hk1 hF ht hB
        try dsimp only at hw
        obtain ⟨S_3, rfl, e_39, q_4, hl_1⟩ := hw
        replace e_39 := e_39.symm
        subst e_39
        have hP : va_P D vwCl ([(q_1, .inl (kA 0, 4, .inl (upd fro k (nI (nn (B.1 k) 5 + (11 + (4 * cb)))))))] ++ wB kA (uP B.1 k S_3, B.2)) H := hP
        have hD : va_D A ([(q_1, .inl (kA 0, 4, .inl (upd fro k (nI (nn (B.1 k) 5 + (11 + (4 * cb)))))))] ++ wB kA (uP B.1 k S_3, B.2)) := hD
        obtain ⟨Bn, hBn⟩ : ∃ X : BS, X = (uP B.1 k S_3, B.2) := ⟨_, rfl⟩
        rw [← hBn] at hP hD
        have hBk : Bn.1 k = S_3 := (congrArg (fun X : BS => X.1 k) hBn).trans (uP_at _ _ _)
        have hM0 : Bn.2 0 = B.2 0 := (congrArg (fun X : BS => X.2 0) hBn).trans (rfl)
        have hM2 : Bn.2 2 = B.2 2 := (congrArg (fun X : BS => X.2 2) hBn).trans (rfl)
        have hM3 : Bn.2 3 = B.2 3 := (congrArg (fun X : BS => X.2 3) hBn).trans (rfl)
        have hM4 : Bn.2 4 = B.2 4 := (congrArg (fun X : BS => X.2 4) hBn).trans (rfl)
        have hM5 : Bn.2 5 = B.2 5 := (congrArg (fun X : BS => X.2 5) hBn).trans (rfl)
        have hM6 : Bn.2 6 = B.2 6 := (congrArg (fun X : BS => X.2 6) hBn).trans (rfl)
        have hbe : Bn.2 0 = ra_1 := hM0.trans hbe
        have hLn : LI Bn (ti + 4) := by rw [hBn]; exact LI_T hL hk q_4.1 (q_4.2.1 3 (by decide))
        have hI := hLn.1
        have hsp1 := hI.2.2.1
        have hn5 : nn (Bn.1 k) 5 = _ := (congrArg (fun X => nn X 5) hBk).trans q_4.2.2.1
        obtain ⟨fr2, hfr2⟩ : ∃ X : Nat → Int32, X = upd fro k (nI (nn (B.1 k) 5 + (11 + (4 * cb)))) := ⟨_, rfl⟩
        rw [← hfr2] at hP hD
        have hf2k : fr2 k = nI (nn (B.1 k) 5 + (11 + 4 * cb)) := by rw [hfr2]; exact upd_at _ _ _
        have hfn : ∀ q, q < 4 → fr2 q = nI (nn (Bn.1 q) 5) := by rw [hfr2, hBn]; exact fr_up hfro (q_4.2.2.1.trans (by rw [hcb]; omega))
        have hP : va_P D vwCl ([(q_1, .inl (kA 0, 4, .inl fr2))] ++ wB kA Bn) H := hP
        have hD : va_D A ([(q_1, .inl (kA 0, 4, .inl fr2))] ++ wB kA Bn) := hD
        refine lv_aload hx hb dL_law_514 (lv_at hl 1 rfl) ?_
        refine lv_iload hx hb dL_law_516 (lv_at hl 6 rfl) ?_
        refine va_iald hx hb hK hP 0 0 rfl rfl (vp_in_nI (n := k) (by omega) (by decide)) dL_law_518 ?_
        rw [nI_clamp (n := k) (by omega)]
        refine W.eq (g2 := F0 m 519 ls [.int (nI (nn (B.1 k) 5 + (11 + 4 * cb))), .int (nI (nn (B.1 k) 5 + 11 + (1 + 3) * cB (nn (B.1 k) 0)))]) (by rw [show fr2 k = nI (nn (B.1 k) 5 + (11 + 4 * cb)) from hf2k]) ?_
        refine lv_icmp_ne (tgt := 540) hx hb dL_law_519 (by decide) (fun c519 => False.elim (by rw [qeq (a := (nn (B.1 k) 5 + 11 + (1 + 3) * cB (nn (B.1 k) 0))) (b := (nn (B.1 k) 5 + (11 + 4 * cb))) (by omega) (by omega)] at c519; omega)) (fun _ => ?_)
        refine lv_aload_n hx hb dL_law_522 rfl (lv_at hl 12 rfl) ?_
        refine lv_iload hx hb dL_law_523 (lv_at hl 6 rfl) ?_
        refine lv_aload hx hb dL_law_525 (lv_at hl 1 rfl) ?_
        refine lv_iload hx hb dL_law_527 (lv_at hl 6 rfl) ?_
        refine va_iald hx hb hK hP 0 0 rfl rfl (vp_in_nI (n := k) (by omega) (by decide)) dL_law_529 ?_
        rw [nI_clamp (n := k) (by omega)]
        refine W.eq (g2 := F0 m 530 ls [.int (nI (nn (B.1 k) 5 + (11 + 4 * cb))), .int (nI k), .ref ra_1]) (by rw [show fr2 k = nI (nn (B.1 k) 5 + (11 + 4 * cb)) from hf2k]) ?_
        refine lv_iconst (v := nI 1) hx hb dL_law_530 (by decide) ?_
        refine lv_isub hx hb dL_law_531 ?_
        rw [pk_sub (a := (nn (B.1 k) 5 + (11 + 4 * cb))) (b := 1) (by omega)]
        refine lv_iconst (v := nI 0) hx hb dL_law_532 (by decide) ?_
        have hF := chF [(q_1, .inl (kA 0, 4, .inl fr2))] hD hS hA
        refine va_calli (va_runV (As := [.int (nI k), .int (nI (nn (B.1 k) 5 + (11 + 4 * cb) - 1)), .int (nI 0)]) (rest := []) ⟨hx, hb, hml, hown, hts⟩ (c_X6_ofCell_B0 l D kA z Bn ra_1 k (nn (B.1 k) 5 + (11 + 4 * cb) - 1) (by first | assumption | omega) (by first | assumption | omega) (by first | assumption | omega) (by first | assumption | omega) _) (cwV 3 hts h_L_law_19 rfl rfl rfl (by decide +kernel) ⟨Nat.le_of_ble_eq_true rfl, Nat.le_of_ble_eq_true rfl⟩) (fPvB [(q_1, .inl (kA 0, 4, .inl fr2))] (hbe) hK hP hD hS hG hF) rfl rfl hl.1 rfl (lv_room (Nat.le_of_ble_eq_true rfl)) dL_law_533 ⟨(Nat.le_trans (Nat.add_le_add_right (show 110 + ti + 1 ≤ 600086 by omega) _) (Nat.le_of_ble_eq_true rfl)), (Nat.le_trans (Nat.add_le_add_right (show 14000 + 4 * ti + 4 ≤ 7301442 by omega) _) (Nat.le_of_ble_eq_true rfl))⟩) hS (fun q _ h => hF q h) hF (fun r_41 w1 t H locs ht hvm hw hB hz1 hk1 hS => ?_)
        obtain ⟨hP, hD⟩ := chJ [(q_1, .inl (kA 0, 4, .inl fr2))] hP hD hk1 hF ht hB
        try dsimp only at hw
        obtain ⟨rfl, e_40⟩ := hw
        have hP : va_P D vwCl ([(q_1, .inl (kA 0, 4, .inl fr2))] ++ wB kA Bn) H := hP
        have hD : va_D A ([(q_1, .inl (kA 0, 4, .inl fr2))] ++ wB kA Bn) := hD
        refine W.eq (g2 := F0 m 536 ls [.int (nI 1)]) (by rw [show r_41 = nI 1 from by rw [e_40, hBk, show nn (B.1 k) 5 + (11 + 4 * cb) - 1 = nn (B.1 k) 5 + 11 + (1 + 3) * cB (nn (B.1 k) 0) - 1 from by omega]; exact hl_1]) ?_
        refine lv_iconst (v := nI 1) hx hb dL_law_536 (by decide) ?_
        refine lv_icmp_eq (tgt := 1067) hx hb dL_law_537 (by decide) (fun _ => ?_) (fun c537 => absurd (by decide) c537)
        exact jn_1067 Bn fr2 (B.2 3) m4 m5 m6 trivial hbe (hLn.le (by omega)) hfn (by omega) (by omega) (by omega) (by omega) _ _ _ hP hD hS (lv_sub hl [3, 9, 10, 11, 1, 8, 12, 13] rfl)
      refine lv_if_le (tgt := 510) hx hb dL_law_503 (by decide) (fun c503 => ?_) (fun c503 => ?_)
      ·
        rw [qnp (a := k_8) (by omega)] at c503
        refine lv_iconst (v := nI 0) hx hb dL_law_510 (by decide) ?_
        exact jn_511 0 trivial (by first | assumption | omega | rfl) _ _ _ hP hD hS (lv_sub hl [0, 1, 2, 3, 4, 5, 6, 7, 8, 9, 10, 11, 12, 13] rfl)
      ·
        rw [qnp (a := k_8) (by omega)] at c503
        refine lv_iconst (v := nI 1) hx hb dL_law_506 (by decide) ?_
        refine lv_goto (tgt := 511) hx hb dL_law_507 (by decide) ?_
        exact jn_511 1 trivial (by first | assumption | omega | rfl) _ _ _ hP hD hS (lv_sub hl [0, 1, 2, 3, 4, 5, 6, 7, 8, 9, 10, 11, 12, 13] rfl)
    ·
      rw [qle (a := (nn (B.1 k) 5 + (11 + (4 * cb)))) (b := 400) (by omega) (by omega)] at c455
      refine lv_goto (tgt := 1067) hx hb dL_law_458 (by decide) ?_
      exact jn_1067 B fro (B.2 3) m4 m5 m6 trivial hbe (hL.le (by omega)) hfro (by omega) (by omega) (by omega) (by omega) _ _ _ hP hD hS (lv_sub hl [3, 9, 10, 11, 1, 8, 12, 13] rfl)
  refine lv_iconst (v := nI 2) hx hb dL_law_432 (by decide) ?_
  refine lv_icmp_ne (tgt := 441) hx hb dL_law_433 (by decide) (fun c433 => ?_) (fun c433 => ?_)
  ·
    rw [qeq (a := (nn (B.1 k) 0)) (b := 2) (by omega) (by omega)] at c433
    refine lv_bipush (v := nI 16) hx hb dL_law_441 (by decide) ?_
    exact jn_443 16 trivial (by first | exact (cB_2 (c := nn (B.1 k) 0) (by omega)).symm | exact (cB_n (c := nn (B.1 k) 0) (by omega)).symm) _ _ _ hP hD hS (lv_sub hl [0, 1, 2, 3, 4, 5, 6, 7, 8, 9, 10, 11, 12] rfl)
  ·
    rw [qeq (a := (nn (B.1 k) 0)) (b := 2) (by omega) (by omega)] at c433
    refine lv_bipush (v := nI 10) hx hb dL_law_436 (by decide) ?_
    refine lv_goto (tgt := 443) hx hb dL_law_438 (by decide) ?_
    exact jn_443 10 trivial (by first | exact (cB_2 (c := nn (B.1 k) 0) (by omega)).symm | exact (cB_n (c := nn (B.1 k) 0) (by omega)).symm) _ _ _ hP hD hS (lv_sub hl [0, 1, 2, 3, 4, 5, 6, 7, 8, 9, 10, 11, 12] rfl)
set_option maxHeartbeats 4000000 in
set_option maxRecDepth 100000 in
theorem cL_5 (l : Launch) (D : va_G) (kA : Nat → ClassId) (z : Nat) (hfl : l.stackTraces = false) {p : Program} {e : Env} {s : State} {m : MethodId} {args : Array Value} {below : List Frame} {meth : Method} {c : Code} {A : Nat → Prop} {ls0 : Array Slot} (hE : fE p s m args meth c D (tyL kA) z wq_L_law RL cL_law 16 (some .boolean) [.ref z] [] A ls0) (hargs : args = #[Value.ref z]) (hA2 : ∀ q : Nat, A q → s.heap.size ≤ q) (ti : Nat) (ra_1 : Nat) (q_1 : Nat) (B : BS) (m4 : Nat) (m5 : Nat) (m6 : Nat) (k : Nat) (x6 : Int32) (fro : Nat → Int32) (hti4 : ti < 40) (hbe : B.2 0 = ra_1) (hL : LI B (ti + 4)) (hm4 : m4 = B.2 4) (hm5 : m5 = B.2 5) (hm6 : m6 = B.2 6) (hk : k < 4) (hfro : ∀ q, q < 4 → fro q = nI (nn (B.1 q) 5)) (jn_1067 : ∀ (B9 : BS) (fr9 : Nat → Int32) (d9 : Nat) (m49 : Nat) (m59 : Nat) (m69 : Nat) (_ : True), (B9.2 0 = ra_1) → (LI B9 (ti + 5)) → (∀ q, q < 4 → fr9 q = nI (nn (B9.1 q) 5)) → (d9 = B9.2 3) → (m49 = B9.2 4) → (m59 = B9.2 5) → (m69 = B9.2 6) → ∀ (H : Heap) (locs : List Loc) (ls : Array Slot), va_P D vwCl ([(q_1, .inl (kA 0, 4, .inl fr9))] ++ wB kA B9) H → va_D A ([(q_1, .inl (kA 0, 4, .inl fr9))] ++ wB kA B9) → va_S A s.heap H locs → lv_has ls 16 [(10, .int (nI d9)), (4, .int (nI m69)), (3, .int (nI m59)), (2, .int (nI m49)), (12, .ref q_1), (5, .int (nI ti)), (1, .ref ra_1), (0, .ref z)] → W p l e room_1 s m args below meth c H locs (110 + ti + 1) (14000 + 4 * ti + 4) (lw_Z below args s) (F0 m 1067 ls [])) (H : Heap) (locs : List Loc) (ls : Array Slot) (hP : va_P D vwCl ([(q_1, .inl (kA 0, 4, .inl fro))] ++ wB kA B) H) (hD : va_D A ([(q_1, .inl (kA 0, 4, .inl fro))] ++ wB kA B)) (hS : va_S A s.heap H locs) (hl : lv_has ls 16 [(12, .ref q_1), (11, .int (nI (shB B))), (10, .int (nI (B.2 3))), (9, .int (nI (nn (B.1 k) 0))), (8, .int (nI (nn (B.1 k) 5))), (7, .int (nI k)), (6, .int x6), (5, .int (nI ti)), (4, .int (nI m6)), (3, .int (nI m5)), (2, .int (nI m4)), (1, .ref ra_1), (0, .ref z)]) : W p l e room_1 s m args below meth c H locs (110 + ti + 1) (14000 + 4 * ti + 4) (lw_Z below args s) (F0 m 542 ls []) := by
  obtain ⟨hx, hb, hr, hml, hts, hown, hlocks, hA, -, -, hK, -, hG, -⟩ := hE
  have hH : s.heap = s.heap := rfl
  have hI := hL.1
  have hl42 := hL.2.2.1
  have hl52 := hL.2.2.2.1
  have hl62 := hL.2.2.2.2
  have iT := hI.1 k hk
  have hn4 := iT.2.2.2.1
  have hn1 := iT.2.1
  have hc2 := iT.1
  have h34 := hL.2.1 k hk
  have hsk := shS_le (B := B) hk
  have hB4 := shB_le hI
  have hsp0 := hI.2.2.1
  have hdw0 := hI.2.2.2
  refine lv_iload hx hb dL_law_542 (lv_at hl 4 rfl) ?_
  refine lv_if_ne (tgt := 550) hx hb dL_law_544 (by decide) (fun c544 => ?_) (fun c544 => ?_)
  ·
    rw [qz (a := (nn (B.1 k) 5)) (by omega)] at c544
    refine lv_iload hx hb dL_law_550 (lv_at hl 6 rfl) ?_
    refine lv_iconst (v := nI 3) hx hb dL_law_552 (by decide) ?_
    refine lv_ishr hx hb dL_law_553 ?_
    refine lv_iload hx hb dL_law_554 (lv_at hl 4 rfl) ?_
    have hF := chF0 hS hA
    refine va_calli (va_runS (As := [.int (x6 >>> ((nI 3) &&& 31)), .int (nI (nn (B.1 k) 5))]) (rest := []) ⟨hx, hb, hml, hown, hts⟩ (c_L_below l D kA z (x6 >>> ((nI 3) &&& 31)) (nn (B.1 k) 5) (by first | assumption | omega) (by first | assumption | omega) _) (va_cwS 2 hts h_L_law_1 rfl rfl rfl (by decide +kernel) ⟨Nat.le_of_ble_eq_true rfl, Nat.le_of_ble_eq_true rfl⟩) (fPs0 hK hS hG hF) rfl rfl hl.1 rfl (lv_room (Nat.le_of_ble_eq_true rfl)) dL_law_556 ⟨(Nat.le_trans (Nat.add_le_add_right (show 110 + ti + 1 ≤ 600086 by omega) _) (Nat.le_of_ble_eq_true rfl)), (Nat.le_trans (Nat.add_le_add_right (show 14000 + 4 * ti + 4 ≤ 7301442 by omega) _) (Nat.le_of_ble_eq_true rfl))⟩) hS (fun q _ h => hF q h) hF (fun r_42 w1 t H locs ht hvm hw hB hz1 hk1 hS => ?_)
    obtain ⟨hP, hD⟩ := chJ0 hP hD hk1 hF ht hB
    try dsimp only at hw
    obtain ⟨k_9, rfl, e_41, hkq_9⟩ := hw
    rw [List.append_nil] at hP hD
    replace e_41 := e_41.symm
    subst e_41
    have hP : va_P D vwCl ([(q_1, .inl (kA 0, 4, .inl fro))] ++ wB kA B) H := hP
    have hD : va_D A ([(q_1, .inl (kA 0, 4, .inl fro))] ++ wB kA B) := hD
    have hix : k_9 < nn (B.1 k) 5 := by omega
    refine lv_istore (lv' := [(13, .int (nI k_9)), (12, .ref q_1), (11, .int (nI (shB B))), (10, .int (nI (B.2 3))), (9, .int (nI (nn (B.1 k) 0))), (8, .int (nI (nn (B.1 k) 5))), (7, .int (nI k)), (6, .int x6), (5, .int (nI ti)), (4, .int (nI m6)), (3, .int (nI m5)), (2, .int (nI m4)), (1, .ref ra_1), (0, .ref z)]) hx hb dL_law_559 hl (by decide) rfl (fun ls hl => ?_)
    refine lv_iload hx hb dL_law_561 (lv_at hl 7 rfl) ?_
    refine lv_bipush (v := nI 6) hx hb dL_law_563 (by decide) ?_
    refine lv_ishr hx hb dL_law_565 ?_
    refine lv_iconst (v := nI 2) hx hb dL_law_566 (by decide) ?_
    have hF := chF0 hS hA
    refine va_calli (va_runS (As := [.int (x6 >>> ((nI 6) &&& 31)), .int (nI 2)]) (rest := []) ⟨hx, hb, hml, hown, hts⟩ (c_L_below l D kA z (x6 >>> ((nI 6) &&& 31)) 2 (by first | assumption | omega) (by first | assumption | omega) _) (va_cwS 2 hts h_L_law_1 rfl rfl rfl (by decide +kernel) ⟨Nat.le_of_ble_eq_true rfl, Nat.le_of_ble_eq_true rfl⟩) (fPs0 hK hS hG hF) rfl rfl hl.1 rfl (lv_room (Nat.le_of_ble_eq_true rfl)) dL_law_567 ⟨(Nat.le_trans (Nat.add_le_add_right (show 110 + ti + 1 ≤ 600086 by omega) _) (Nat.le_of_ble_eq_true rfl)), (Nat.le_trans (Nat.add_le_add_right (show 14000 + 4 * ti + 4 ≤ 7301442 by omega) _) (Nat.le_of_ble_eq_true rfl))⟩) hS (fun q _ h => hF q h) hF (fun r_43 w1 t H locs ht hvm hw hB hz1 hk1 hS => ?_)
    obtain ⟨hP, hD⟩ := chJ0 hP hD hk1 hF ht hB
    try dsimp only at hw
    obtain ⟨k_10, rfl, e_42, hkq_10⟩ := hw
    rw [List.append_nil] at hP hD
    replace e_42 := e_42.symm
    subst e_42
    have hP : va_P D vwCl ([(q_1, .inl (kA 0, 4, .inl fro))] ++ wB kA B) H := hP
    have hD : va_D A ([(q_1, .inl (kA 0, 4, .inl fro))] ++ wB kA B) := hD
    have jn_578 : ∀ (on : Nat) (_ : True), (on ≤ 1) → ∀ (H : Heap) (locs : List Loc) (ls : Array Slot), va_P D vwCl ([(q_1, .inl (kA 0, 4, .inl fro))] ++ wB kA B) H → va_D A ([(q_1, .inl (kA 0, 4, .inl fro))] ++ wB kA B) → va_S A s.heap H locs → lv_has ls 16 [(13, .int (nI k_9)), (12, .ref q_1), (11, .int (nI (shB B))), (10, .int (nI (B.2 3))), (9, .int (nI (nn (B.1 k) 0))), (8, .int (nI (nn (B.1 k) 5))), (7, .int (nI k)), (6, .int x6), (5, .int (nI ti)), (4, .int (nI m6)), (3, .int (nI m5)), (2, .int (nI m4)), (1, .ref ra_1), (0, .ref z)] → W p l e room_1 s m args below meth c H locs (110 + ti + 1) (14000 + 4 * ti + 4) (lw_Z below args s) (F0 m 578 ls [.int (nI on)]) := by
      clear hP hD hS hl
      intro on _ hon H locs ls hP hD hS hl
      refine lv_istore (lv' := [(14, .int (nI on)), (13, .int (nI k_9)), (12, .ref q_1), (11, .int (nI (shB B))), (10, .int (nI (B.2 3))), (9, .int (nI (nn (B.1 k) 0))), (8, .int (nI (nn (B.1 k) 5))), (7, .int (nI k)), (6, .int x6), (5, .int (nI ti)), (4, .int (nI m6)), (3, .int (nI m5)), (2, .int (nI m4)), (1, .ref ra_1), (0, .ref z)]) hx hb dL_law_578 hl (by decide) rfl (fun ls hl => ?_)
      refine lv_aload_n hx hb dL_law_580 rfl (lv_at hl 13 rfl) ?_
      refine lv_iload hx hb dL_law_581 (lv_at hl 7 rfl) ?_
      refine lv_iload hx hb dL_law_583 (lv_at hl 1 rfl) ?_
      refine lv_iconst (v := nI 2) hx hb dL_law_585 (by decide) ?_
      have hF := chF [(q_1, .inl (kA 0, 4, .inl fro))] hD hS hA
      refine va_calli (va_runV (As := [.int (nI k), .int (nI k_9), .int (nI 2)]) (rest := []) ⟨hx, hb, hml, hown, hts⟩ (c_X6_ofCell_B2 l D kA z B ra_1 k k_9 (by first | assumption | omega) (by first | assumption | omega) (by first | assumption | omega) (by first | assumption | omega) _) (cwV 3 hts h_L_law_16 rfl rfl rfl (by decide +kernel) ⟨Nat.le_of_ble_eq_true rfl, Nat.le_of_ble_eq_true rfl⟩) (fPvB [(q_1, .inl (kA 0, 4, .inl fro))] (hbe) hK hP hD hS hG hF) rfl rfl hl.1 rfl (lv_room (Nat.le_of_ble_eq_true rfl)) dL_law_586 ⟨(Nat.le_trans (Nat.add_le_add_right (show 110 + ti + 1 ≤ 600086 by omega) _) (Nat.le_of_ble_eq_true rfl)), (Nat.le_trans (Nat.add_le_add_right (show 14000 + 4 * ti + 4 ≤ 7301442 by omega) _) (Nat.le_of_ble_eq_true rfl))⟩) hS (fun q _ h => hF q h) hF (fun r_44 w1 t H locs ht hvm hw hB hz1 hk1 hS => ?_)
      obtain ⟨hP, hD⟩ := chJ [(q_1, .inl (kA 0, 4, .inl fro))] hP hD hk1 hF ht hB
      try dsimp only at hw
      obtain ⟨rfl, e_43⟩ := hw
      replace e_43 := e_43.symm
      subst e_43
      have hP : va_P D vwCl ([(q_1, .inl (kA 0, 4, .inl fro))] ++ wB kA B) H := hP
      have hD : va_D A ([(q_1, .inl (kA 0, 4, .inl fro))] ++ wB kA B) := hD
      have hw1 : (if rw' (B.1 k) 2 k_9 = nI 0 then 0 else 1) ≤ 1 := by split <;> omega
      refine lv_iconst (v := nI 1) hx hb dL_law_589 (by decide) ?_
      have jn_598 : ∀ (wa : Nat) (_ : True), (wa = if rw' (B.1 k) 2 k_9 = nI 0 then 0 else 1) → ∀ (H : Heap) (locs : List Loc) (ls : Array Slot), va_P D vwCl ([(q_1, .inl (kA 0, 4, .inl fro))] ++ wB kA B) H → va_D A ([(q_1, .inl (kA 0, 4, .inl fro))] ++ wB kA B) → va_S A s.heap H locs → lv_has ls 16 [(14, .int (nI on)), (13, .int (nI k_9)), (12, .ref q_1), (11, .int (nI (shB B))), (10, .int (nI (B.2 3))), (9, .int (nI (nn (B.1 k) 0))), (8, .int (nI (nn (B.1 k) 5))), (7, .int (nI k)), (6, .int x6), (5, .int (nI ti)), (4, .int (nI m6)), (3, .int (nI m5)), (2, .int (nI m4)), (1, .ref ra_1), (0, .ref z)] → W p l e room_1 s m args below meth c H locs (110 + ti + 1) (14000 + 4 * ti + 4) (lw_Z below args s) (F0 m 598 ls [.int (nI wa)]) := by
        clear hP hD hS hl
        intro wa _ hwa H locs ls hP hD hS hl
        refine lv_istore (lv' := [(15, .int (nI wa)), (14, .int (nI on)), (13, .int (nI k_9)), (12, .ref q_1), (11, .int (nI (shB B))), (10, .int (nI (B.2 3))), (9, .int (nI (nn (B.1 k) 0))), (8, .int (nI (nn (B.1 k) 5))), (7, .int (nI k)), (6, .int x6), (5, .int (nI ti)), (4, .int (nI m6)), (3, .int (nI m5)), (2, .int (nI m4)), (1, .ref ra_1), (0, .ref z)]) hx hb dL_law_598 hl (by decide) rfl (fun ls hl => ?_)
        refine lv_aload_n hx hb dL_law_600 rfl (lv_at hl 14 rfl) ?_
        refine lv_iload hx hb dL_law_601 (lv_at hl 8 rfl) ?_
        refine lv_iload hx hb dL_law_603 (lv_at hl 2 rfl) ?_
        refine lv_iload hx hb dL_law_605 (lv_at hl 1 rfl) ?_
        have hF := chF [(q_1, .inl (kA 0, 4, .inl fro))] hD hS hA
        refine va_calli (va_runV (As := [.int (nI k), .int (nI k_9), .int (nI on)]) (rest := []) ⟨hx, hb, hml, hown, hts⟩ (c_X6_weak_B l D kA z B ra_1 k k_9 on (by first | assumption | omega) (by first | assumption | omega) (by first | assumption | omega) (by first | assumption | omega) (by first | assumption | omega) _) (cwV 3 hts h_L_law_21 rfl rfl rfl (by decide +kernel) ⟨Nat.le_of_ble_eq_true rfl, Nat.le_of_ble_eq_true rfl⟩) (fPvB [(q_1, .inl (kA 0, 4, .inl fro))] (hbe) hK hP hD hS hG hF) rfl rfl hl.1 rfl (lv_room (Nat.le_of_ble_eq_true rfl)) dL_law_607 ⟨(Nat.le_trans (Nat.add_le_add_right (show 110 + ti + 1 ≤ 600086 by omega) _) (Nat.le_of_ble_eq_true rfl)), (Nat.le_trans (Nat.add_le_add_right (show 14000 + 4 * ti + 4 ≤ 7301442 by omega) _) (Nat.le_of_ble_eq_true rfl))⟩) hS (fun q _ h => hF q h) hF (fun r_45 w1 t H locs ht hvm hw hB hz1 hk1 hS => ?_)
        obtain ⟨hP, hD⟩ := chJ [(q_1, .inl (kA 0, 4, .inl fro))] hP hD hk1 hF ht hB
        try dsimp only at hw
        obtain ⟨S_4, wb_1, rfl, hw_1, e_44, hw_2, q_5⟩ := hw
        replace e_44 := e_44.symm
        subst e_44
        have hP : va_P D vwCl ([(q_1, .inl (kA 0, 4, .inl fro))] ++ wB kA (uP B.1 k S_4, B.2)) H := hP
        have hD : va_D A ([(q_1, .inl (kA 0, 4, .inl fro))] ++ wB kA (uP B.1 k S_4, B.2)) := hD
        obtain ⟨Bn, hBn⟩ : ∃ X : BS, X = (uP B.1 k S_4, B.2) := ⟨_, rfl⟩
        rw [← hBn] at hP hD
        have hBk : Bn.1 k = S_4 := (congrArg (fun X : BS => X.1 k) hBn).trans (uP_at _ _ _)
        have hM0 : Bn.2 0 = B.2 0 := (congrArg (fun X : BS => X.2 0) hBn).trans (rfl)
        have hM2 : Bn.2 2 = B.2 2 := (congrArg (fun X : BS => X.2 2) hBn).trans (rfl)
        have hM3 : Bn.2 3 = B.2 3 := (congrArg (fun X : BS => X.2 3) hBn).trans (rfl)
        have hM4 : Bn.2 4 = B.2 4 := (congrArg (fun X : BS => X.2 4) hBn).trans (rfl)
        have hM5 : Bn.2 5 = B.2 5 := (congrArg (fun X : BS => X.2 5) hBn).trans (rfl)
        have hM6 : Bn.2 6 = B.2 6 := (congrArg (fun X : BS => X.2 6) hBn).trans (rfl)
        have hbe : Bn.2 0 = ra_1 := hM0.trans hbe
        have hLn : LI Bn (ti + 4) := by rw [hBn]; exact LI_T hL hk q_5.1 (congrFun q_5.2.1 3)
        have hI := hLn.1
        have hsp1 := hI.2.2.1
        have hn5 : nn (Bn.1 k) 5 = nn (B.1 k) 5 := (congrArg (fun X => nn X 5) hBk).trans (congrFun q_5.2.1 5)
        have hw8 := hw_2
        have hfn : ∀ q, q < 4 → fro q = nI (nn (Bn.1 q) 5) := by rw [hBn]; exact fr_keep hfro (congrFun q_5.2.1 5)
        have hP : va_P D vwCl ([(q_1, .inl (kA 0, 4, .inl fro))] ++ wB kA Bn) H := hP
        have hD : va_D A ([(q_1, .inl (kA 0, 4, .inl fro))] ++ wB kA Bn) := hD
        refine lv_iload hx hb dL_law_610 (lv_at hl 0 rfl) ?_
        refine lv_icmp_ne (tgt := 637) hx hb dL_law_612 (by decide) (fun c612 => False.elim (by rw [qeq (a := wb_1) (b := wa) (by omega) (by omega)] at c612; omega)) (fun _ => ?_)
        refine lv_aload_n hx hb dL_law_615 rfl (lv_at hl 14 rfl) ?_
        refine lv_iload hx hb dL_law_616 (lv_at hl 8 rfl) ?_
        refine lv_iload hx hb dL_law_618 (lv_at hl 2 rfl) ?_
        refine lv_iconst (v := nI 2) hx hb dL_law_620 (by decide) ?_
        have hF := chF [(q_1, .inl (kA 0, 4, .inl fro))] hD hS hA
        refine va_calli (va_runV (As := [.int (nI k), .int (nI k_9), .int (nI 2)]) (rest := []) ⟨hx, hb, hml, hown, hts⟩ (c_X6_ofCell_B2 l D kA z Bn ra_1 k k_9 (by first | assumption | omega) (by first | assumption | omega) (by first | assumption | omega) (by first | assumption | omega) _) (cwV 3 hts h_L_law_16 rfl rfl rfl (by decide +kernel) ⟨Nat.le_of_ble_eq_true rfl, Nat.le_of_ble_eq_true rfl⟩) (fPvB [(q_1, .inl (kA 0, 4, .inl fro))] (hbe) hK hP hD hS hG hF) rfl rfl hl.1 rfl (lv_room (Nat.le_of_ble_eq_true rfl)) dL_law_621 ⟨(Nat.le_trans (Nat.add_le_add_right (show 110 + ti + 1 ≤ 600086 by omega) _) (Nat.le_of_ble_eq_true rfl)), (Nat.le_trans (Nat.add_le_add_right (show 14000 + 4 * ti + 4 ≤ 7301442 by omega) _) (Nat.le_of_ble_eq_true rfl))⟩) hS (fun q _ h => hF q h) hF (fun r_46 w1 t H locs ht hvm hw hB hz1 hk1 hS => ?_)
        obtain ⟨hP, hD⟩ := chJ [(q_1, .inl (kA 0, 4, .inl fro))] hP hD hk1 hF ht hB
        try dsimp only at hw
        obtain ⟨rfl, e_45⟩ := hw
        replace e_45 := e_45.symm
        subst e_45
        have hP : va_P D vwCl ([(q_1, .inl (kA 0, 4, .inl fro))] ++ wB kA Bn) H := hP
        have hD : va_D A ([(q_1, .inl (kA 0, 4, .inl fro))] ++ wB kA Bn) := hD
        refine W.eq (g2 := F0 m 624 ls [.int (nI on)]) (by rw [show nI (if rw' (Bn.1 k) 2 k_9 = nI 0 then 0 else 1) = nI on from by rw [hBk]; exact by rw [q_5.2.2.1, upd_at, wk_1 hon]]) ?_
        refine lv_iload hx hb dL_law_624 (lv_at hl 1 rfl) ?_
        have jn_634 : ∀ (o1 : Nat) (_ : True), (o1 = on) → ∀ (H : Heap) (locs : List Loc) (ls : Array Slot), va_P D vwCl ([(q_1, .inl (kA 0, 4, .inl fro))] ++ wB kA Bn) H → va_D A ([(q_1, .inl (kA 0, 4, .inl fro))] ++ wB kA Bn) → va_S A s.heap H locs → lv_has ls 16 [(15, .int (nI wa)), (14, .int (nI on)), (13, .int (nI k_9)), (12, .ref q_1), (11, .int (nI (shB B))), (10, .int (nI (B.2 3))), (9, .int (nI (nn (B.1 k) 0))), (8, .int (nI (nn (B.1 k) 5))), (7, .int (nI k)), (6, .int x6), (5, .int (nI ti)), (4, .int (nI m6)), (3, .int (nI m5)), (2, .int (nI m4)), (1, .ref ra_1), (0, .ref z)] → W p l e room_1 s m args below meth c H locs (110 + ti + 1) (14000 + 4 * ti + 4) (lw_Z below args s) (F0 m 634 ls [.int (nI o1), .int (nI on)]) := by
          clear hP hD hS hl
          intro o1 _ ho1 H locs ls hP hD hS hl
          refine lv_icmp_eq (tgt := 1067) hx hb dL_law_634 (by decide) (fun _ => ?_) (fun c634 => False.elim (by rw [qeq (a := on) (b := o1) (by omega) (by omega)] at c634; omega))
          exact jn_1067 Bn fro (B.2 3) m4 m5 m6 trivial hbe (hLn.le (by omega)) hfn (by omega) (by omega) (by omega) (by omega) _ _ _ hP hD hS (lv_sub hl [5, 11, 12, 13, 3, 10, 14, 15] rfl)
        refine lv_if_eq (tgt := 633) hx hb dL_law_626 (by decide) (fun c626 => ?_) (fun c626 => ?_)
        ·
          rw [qz (a := on) (by omega)] at c626
          refine lv_iconst (v := nI 0) hx hb dL_law_633 (by decide) ?_
          exact jn_634 0 trivial (by omega) _ _ _ hP hD hS (lv_sub hl [0, 1, 2, 3, 4, 5, 6, 7, 8, 9, 10, 11, 12, 13, 14, 15] rfl)
        ·
          rw [qz (a := on) (by omega)] at c626
          refine lv_iconst (v := nI 1) hx hb dL_law_629 (by decide) ?_
          refine lv_goto (tgt := 634) hx hb dL_law_630 (by decide) ?_
          exact jn_634 1 trivial (by omega) _ _ _ hP hD hS (lv_sub hl [0, 1, 2, 3, 4, 5, 6, 7, 8, 9, 10, 11, 12, 13, 14, 15] rfl)
      refine lv_icmp_ne (tgt := 597) hx hb dL_law_590 (by decide) (fun c590 => ?_) (fun c590 => ?_)
      ·
        rw [qeq (a := (if rw' (B.1 k) 2 k_9 = nI 0 then 0 else 1)) (b := 1) (by omega) (by omega)] at c590
        refine lv_iconst (v := nI 0) hx hb dL_law_597 (by decide) ?_
        exact jn_598 0 trivial (by omega) _ _ _ hP hD hS (lv_sub hl [0, 1, 2, 3, 4, 5, 6, 7, 8, 9, 10, 11, 12, 13, 14] rfl)
      ·
        rw [qeq (a := (if rw' (B.1 k) 2 k_9 = nI 0 then 0 else 1)) (b := 1) (by omega) (by omega)] at c590
        refine lv_iconst (v := nI 1) hx hb dL_law_593 (by decide) ?_
        refine lv_goto (tgt := 598) hx hb dL_law_594 (by decide) ?_
        exact jn_598 1 trivial (by omega) _ _ _ hP hD hS (lv_sub hl [0, 1, 2, 3, 4, 5, 6, 7, 8, 9, 10, 11, 12, 13, 14] rfl)
    refine lv_if_ne (tgt := 577) hx hb dL_law_570 (by decide) (fun c570 => ?_) (fun c570 => ?_)
    ·
      rw [qz (a := k_10) (by omega)] at c570
      refine lv_iconst (v := nI 0) hx hb dL_law_577 (by decide) ?_
      exact jn_578 0 trivial (by first | assumption | omega | rfl) _ _ _ hP hD hS (lv_sub hl [0, 1, 2, 3, 4, 5, 6, 7, 8, 9, 10, 11, 12, 13] rfl)
    ·
      rw [qz (a := k_10) (by omega)] at c570
      refine lv_iconst (v := nI 1) hx hb dL_law_573 (by decide) ?_
      refine lv_goto (tgt := 578) hx hb dL_law_574 (by decide) ?_
      exact jn_578 1 trivial (by first | assumption | omega | rfl) _ _ _ hP hD hS (lv_sub hl [0, 1, 2, 3, 4, 5, 6, 7, 8, 9, 10, 11, 12, 13] rfl)
  ·
    rw [qz (a := (nn (B.1 k) 5)) (by omega)] at c544
    refine lv_goto (tgt := 1067) hx hb dL_law_547 (by decide) ?_
    exact jn_1067 B fro (B.2 3) m4 m5 m6 trivial hbe (hL.le (by omega)) hfro (by omega) (by omega) (by omega) (by omega) _ _ _ hP hD hS (lv_sub hl [2, 8, 9, 10, 0, 7, 11, 12] rfl)
set_option maxHeartbeats 4000000 in
set_option maxRecDepth 100000 in
theorem cL_6 (l : Launch) (D : va_G) (kA : Nat → ClassId) (z : Nat) (hfl : l.stackTraces = false) {p : Program} {e : Env} {s : State} {m : MethodId} {args : Array Value} {below : List Frame} {meth : Method} {c : Code} {A : Nat → Prop} {ls0 : Array Slot} (hE : fE p s m args meth c D (tyL kA) z wq_L_law RL cL_law 16 (some .boolean) [.ref z] [] A ls0) (hargs : args = #[Value.ref z]) (hA2 : ∀ q : Nat, A q → s.heap.size ≤ q) (ti : Nat) (ra_1 : Nat) (q_1 : Nat) (B : BS) (m4 : Nat) (m5 : Nat) (m6 : Nat) (k : Nat) (x6 : Int32) (fro : Nat → Int32) (hti4 : ti < 40) (hbe : B.2 0 = ra_1) (hL : LI B (ti + 4)) (hm4 : m4 = B.2 4) (hm5 : m5 = B.2 5) (hm6 : m6 = B.2 6) (hk : k < 4) (hfro : ∀ q, q < 4 → fro q = nI (nn (B.1 q) 5)) (jn_1067 : ∀ (B9 : BS) (fr9 : Nat → Int32) (d9 : Nat) (m49 : Nat) (m59 : Nat) (m69 : Nat) (_ : True), (B9.2 0 = ra_1) → (LI B9 (ti + 5)) → (∀ q, q < 4 → fr9 q = nI (nn (B9.1 q) 5)) → (d9 = B9.2 3) → (m49 = B9.2 4) → (m59 = B9.2 5) → (m69 = B9.2 6) → ∀ (H : Heap) (locs : List Loc) (ls : Array Slot), va_P D vwCl ([(q_1, .inl (kA 0, 4, .inl fr9))] ++ wB kA B9) H → va_D A ([(q_1, .inl (kA 0, 4, .inl fr9))] ++ wB kA B9) → va_S A s.heap H locs → lv_has ls 16 [(10, .int (nI d9)), (4, .int (nI m69)), (3, .int (nI m59)), (2, .int (nI m49)), (12, .ref q_1), (5, .int (nI ti)), (1, .ref ra_1), (0, .ref z)] → W p l e room_1 s m args below meth c H locs (110 + ti + 1) (14000 + 4 * ti + 4) (lw_Z below args s) (F0 m 1067 ls [])) (H : Heap) (locs : List Loc) (ls : Array Slot) (hP : va_P D vwCl ([(q_1, .inl (kA 0, 4, .inl fro))] ++ wB kA B) H) (hD : va_D A ([(q_1, .inl (kA 0, 4, .inl fro))] ++ wB kA B)) (hS : va_S A s.heap H locs) (hl : lv_has ls 16 [(12, .ref q_1), (11, .int (nI (shB B))), (10, .int (nI (B.2 3))), (9, .int (nI (nn (B.1 k) 0))), (8, .int (nI (nn (B.1 k) 5))), (7, .int (nI k)), (6, .int x6), (5, .int (nI ti)), (4, .int (nI m6)), (3, .int (nI m5)), (2, .int (nI m4)), (1, .ref ra_1), (0, .ref z)]) : W p l e room_1 s m args below meth c H locs (110 + ti + 1) (14000 + 4 * ti + 4) (lw_Z below args s) (F0 m 639 ls []) := by
  obtain ⟨hx, hb, hr, hml, hts, hown, hlocks, hA, -, -, hK, -, hG, -⟩ := hE
  have hH : s.heap = s.heap := rfl
  have hI := hL.1
  have hl42 := hL.2.2.1
  have hl52 := hL.2.2.2.1
  have hl62 := hL.2.2.2.2
  have iT := hI.1 k hk
  have hn4 := iT.2.2.2.1
  have hn1 := iT.2.1
  have hc2 := iT.1
  have h34 := hL.2.1 k hk
  have hsk := shS_le (B := B) hk
  have hB4 := shB_le hI
  have hsp0 := hI.2.2.1
  have hdw0 := hI.2.2.2
  refine lv_iload hx hb dL_law_639 (lv_at hl 4 rfl) ?_
  refine lv_if_ne (tgt := 647) hx hb dL_law_641 (by decide) (fun c641 => ?_) (fun c641 => ?_)
  ·
    rw [qz (a := (nn (B.1 k) 5)) (by omega)] at c641
    refine lv_iload hx hb dL_law_647 (lv_at hl 6 rfl) ?_
    refine lv_iconst (v := nI 3) hx hb dL_law_649 (by decide) ?_
    refine lv_ishr hx hb dL_law_650 ?_
    refine lv_iload hx hb dL_law_651 (lv_at hl 4 rfl) ?_
    have hF := chF0 hS hA
    refine va_calli (va_runS (As := [.int (x6 >>> ((nI 3) &&& 31)), .int (nI (nn (B.1 k) 5))]) (rest := []) ⟨hx, hb, hml, hown, hts⟩ (c_L_below l D kA z (x6 >>> ((nI 3) &&& 31)) (nn (B.1 k) 5) (by first | assumption | omega) (by first | assumption | omega) _) (va_cwS 2 hts h_L_law_1 rfl rfl rfl (by decide +kernel) ⟨Nat.le_of_ble_eq_true rfl, Nat.le_of_ble_eq_true rfl⟩) (fPs0 hK hS hG hF) rfl rfl hl.1 rfl (lv_room (Nat.le_of_ble_eq_true rfl)) dL_law_653 ⟨(Nat.le_trans (Nat.add_le_add_right (show 110 + ti + 1 ≤ 600086 by omega) _) (Nat.le_of_ble_eq_true rfl)), (Nat.le_trans (Nat.add_le_add_right (show 14000 + 4 * ti + 4 ≤ 7301442 by omega) _) (Nat.le_of_ble_eq_true rfl))⟩) hS (fun q _ h => hF q h) hF (fun r_47 w1 t H locs ht hvm hw hB hz1 hk1 hS => ?_)
    obtain ⟨hP, hD⟩ := chJ0 hP hD hk1 hF ht hB
    try dsimp only at hw
    obtain ⟨k_11, rfl, e_46, hkq_11⟩ := hw
    rw [List.append_nil] at hP hD
    replace e_46 := e_46.symm
    subst e_46
    have hP : va_P D vwCl ([(q_1, .inl (kA 0, 4, .inl fro))] ++ wB kA B) H := hP
    have hD : va_D A ([(q_1, .inl (kA 0, 4, .inl fro))] ++ wB kA B) := hD
    have hix : k_11 < nn (B.1 k) 5 := by omega
    refine lv_istore (lv' := [(13, .int (nI k_11)), (12, .ref q_1), (11, .int (nI (shB B))), (10, .int (nI (B.2 3))), (9, .int (nI (nn (B.1 k) 0))), (8, .int (nI (nn (B.1 k) 5))), (7, .int (nI k)), (6, .int x6), (5, .int (nI ti)), (4, .int (nI m6)), (3, .int (nI m5)), (2, .int (nI m4)), (1, .ref ra_1), (0, .ref z)]) hx hb dL_law_656 hl (by decide) rfl (fun ls hl => ?_)
    refine lv_aload_n hx hb dL_law_658 rfl (lv_at hl 12 rfl) ?_
    refine lv_iload hx hb dL_law_659 (lv_at hl 6 rfl) ?_
    refine lv_iload hx hb dL_law_661 (lv_at hl 0 rfl) ?_
    refine lv_iconst (v := nI 3) hx hb dL_law_663 (by decide) ?_
    have hF := chF [(q_1, .inl (kA 0, 4, .inl fro))] hD hS hA
    refine va_calli (va_runV (As := [.int (nI k), .int (nI k_11), .int (nI 3)]) (rest := []) ⟨hx, hb, hml, hown, hts⟩ (c_X6_ofCell_B3 l D kA z B ra_1 k k_11 (by first | assumption | omega) (by first | assumption | omega) (by first | assumption | omega) (by first | assumption | omega) _) (cwV 3 hts h_L_law_17 rfl rfl rfl (by decide +kernel) ⟨Nat.le_of_ble_eq_true rfl, Nat.le_of_ble_eq_true rfl⟩) (fPvB [(q_1, .inl (kA 0, 4, .inl fro))] (hbe) hK hP hD hS hG hF) rfl rfl hl.1 rfl (lv_room (Nat.le_of_ble_eq_true rfl)) dL_law_664 ⟨(Nat.le_trans (Nat.add_le_add_right (show 110 + ti + 1 ≤ 600086 by omega) _) (Nat.le_of_ble_eq_true rfl)), (Nat.le_trans (Nat.add_le_add_right (show 14000 + 4 * ti + 4 ≤ 7301442 by omega) _) (Nat.le_of_ble_eq_true rfl))⟩) hS (fun q _ h => hF q h) hF (fun r_48 w1 t H locs ht hvm hw hB hz1 hk1 hS => ?_)
    obtain ⟨hP, hD⟩ := chJ [(q_1, .inl (kA 0, 4, .inl fro))] hP hD hk1 hF ht hB
    try dsimp only at hw
    obtain ⟨rfl, e_47⟩ := hw
    replace e_47 := e_47.symm
    subst e_47
    have hP : va_P D vwCl ([(q_1, .inl (kA 0, 4, .inl fro))] ++ wB kA B) H := hP
    have hD : va_D A ([(q_1, .inl (kA 0, 4, .inl fro))] ++ wB kA B) := hD
    have hdl := dT_le (rw' (B.1 k) 3 k_11)
    refine lv_istore (lv' := [(14, .int (nI (dT (rw' (B.1 k) 3 k_11)))), (13, .int (nI k_11)), (12, .ref q_1), (11, .int (nI (shB B))), (10, .int (nI (B.2 3))), (9, .int (nI (nn (B.1 k) 0))), (8, .int (nI (nn (B.1 k) 5))), (7, .int (nI k)), (6, .int x6), (5, .int (nI ti)), (4, .int (nI m6)), (3, .int (nI m5)), (2, .int (nI m4)), (1, .ref ra_1), (0, .ref z)]) hx hb dL_law_667 hl (by decide) rfl (fun ls hl => ?_)
    refine lv_aload_n hx hb dL_law_669 rfl (lv_at hl 13 rfl) ?_
    refine lv_iload hx hb dL_law_670 (lv_at hl 7 rfl) ?_
    refine lv_iload hx hb dL_law_672 (lv_at hl 1 rfl) ?_
    refine lv_iload hx hb dL_law_674 (lv_at hl 1 rfl) ?_
    have hF := chF [(q_1, .inl (kA 0, 4, .inl fro))] hD hS hA
    refine va_calli (va_runV (As := [.int (nI k), .int (nI k_11), .int (nI k_11)]) (rest := []) ⟨hx, hb, hml, hown, hts⟩ (c_X6_dirt_B l D kA z B ra_1 k k_11 k_11 (by first | assumption | omega) (by first | assumption | omega) (by first | assumption | omega) (by first | assumption | omega) (by first | assumption | omega) (by first | assumption | omega) _) (cwV 3 hts h_L_law_22 rfl rfl rfl (by decide +kernel) ⟨Nat.le_of_ble_eq_true rfl, Nat.le_of_ble_eq_true rfl⟩) (fPvB [(q_1, .inl (kA 0, 4, .inl fro))] (hbe) hK hP hD hS hG hF) rfl rfl hl.1 rfl (lv_room (Nat.le_of_ble_eq_true rfl)) dL_law_676 ⟨(Nat.le_trans (Nat.add_le_add_right (show 110 + ti + 1 ≤ 600086 by omega) _) (Nat.le_of_ble_eq_true rfl)), (Nat.le_trans (Nat.add_le_add_right (show 14000 + 4 * ti + 4 ≤ 7301442 by omega) _) (Nat.le_of_ble_eq_true rfl))⟩) hS (fun q _ h => hF q h) hF (fun r_49 w1 t H locs ht hvm hw hB hz1 hk1 hS => ?_)
    obtain ⟨hP, hD⟩ := chJ [(q_1, .inl (kA 0, 4, .inl fro))] hP hD hk1 hF ht hB
    try dsimp only at hw
    obtain ⟨S_5, rfl, e_48, q_6⟩ := hw
    replace e_48 := e_48.symm
    subst e_48
    have hP : va_P D vwCl ([(q_1, .inl (kA 0, 4, .inl fro))] ++ wB kA (uP B.1 k S_5, B.2)) H := hP
    have hD : va_D A ([(q_1, .inl (kA 0, 4, .inl fro))] ++ wB kA (uP B.1 k S_5, B.2)) := hD
    obtain ⟨Bn, hBn⟩ : ∃ X : BS, X = (uP B.1 k S_5, B.2) := ⟨_, rfl⟩
    rw [← hBn] at hP hD
    have hBk : Bn.1 k = S_5 := (congrArg (fun X : BS => X.1 k) hBn).trans (uP_at _ _ _)
    have hM0 : Bn.2 0 = B.2 0 := (congrArg (fun X : BS => X.2 0) hBn).trans (rfl)
    have hM2 : Bn.2 2 = B.2 2 := (congrArg (fun X : BS => X.2 2) hBn).trans (rfl)
    have hM3 : Bn.2 3 = B.2 3 := (congrArg (fun X : BS => X.2 3) hBn).trans (rfl)
    have hM4 : Bn.2 4 = B.2 4 := (congrArg (fun X : BS => X.2 4) hBn).trans (rfl)
    have hM5 : Bn.2 5 = B.2 5 := (congrArg (fun X : BS => X.2 5) hBn).trans (rfl)
    have hM6 : Bn.2 6 = B.2 6 := (congrArg (fun X : BS => X.2 6) hBn).trans (rfl)
    have hbe : Bn.2 0 = ra_1 := hM0.trans hbe
    have hLn : LI Bn (ti + 4) := by rw [hBn]; exact LI_T hL hk q_6.1 (congrFun q_6.2.1 3)
    have hI := hLn.1
    have hsp1 := hI.2.2.1
    have hn5 : nn (Bn.1 k) 5 = nn (B.1 k) 5 := (congrArg (fun X => nn X 5) hBk).trans (congrFun q_6.2.1 5)
    have hct := cntT_le (rw' S_5 3) 1 (nn (B.1 k) 5)
    have hfn : ∀ q, q < 4 → fro q = nI (nn (Bn.1 q) 5) := by rw [hBn]; exact fr_keep hfro (congrFun q_6.2.1 5)
    have hP : va_P D vwCl ([(q_1, .inl (kA 0, 4, .inl fro))] ++ wB kA Bn) H := hP
    have hD : va_D A ([(q_1, .inl (kA 0, 4, .inl fro))] ++ wB kA Bn) := hD
    refine lv_istore (lv' := [(15, .int (nI (cntT (rw' S_5 3) 1 (nn (B.1 k) 5)))), (14, .int (nI (dT (rw' (B.1 k) 3 k_11)))), (13, .int (nI k_11)), (12, .ref q_1), (11, .int (nI (shB B))), (10, .int (nI (B.2 3))), (9, .int (nI (nn (B.1 k) 0))), (8, .int (nI (nn (B.1 k) 5))), (7, .int (nI k)), (6, .int x6), (5, .int (nI ti)), (4, .int (nI m6)), (3, .int (nI m5)), (2, .int (nI m4)), (1, .ref ra_1), (0, .ref z)]) hx hb dL_law_679 hl (by decide) rfl (fun ls hl => ?_)
    refine lv_iload hx hb dL_law_681 (lv_at hl 0 rfl) ?_
    refine lv_iload hx hb dL_law_683 (lv_at hl 1 rfl) ?_
    refine lv_iconst (v := nI 2) hx hb dL_law_685 (by decide) ?_
    have jn_694 : ∀ (lo : Nat) (_ : True), (lo = if dT (rw' (B.1 k) 3 k_11) = 2 then 0 else 1) → ∀ (H : Heap) (locs : List Loc) (ls : Array Slot), va_P D vwCl ([(q_1, .inl (kA 0, 4, .inl fro))] ++ wB kA Bn) H → va_D A ([(q_1, .inl (kA 0, 4, .inl fro))] ++ wB kA Bn) → va_S A s.heap H locs → lv_has ls 16 [(15, .int (nI (cntT (rw' S_5 3) 1 (nn (B.1 k) 5)))), (14, .int (nI (dT (rw' (B.1 k) 3 k_11)))), (13, .int (nI k_11)), (12, .ref q_1), (11, .int (nI (shB B))), (10, .int (nI (B.2 3))), (9, .int (nI (nn (B.1 k) 0))), (8, .int (nI (nn (B.1 k) 5))), (7, .int (nI k)), (6, .int x6), (5, .int (nI ti)), (4, .int (nI m6)), (3, .int (nI m5)), (2, .int (nI m4)), (1, .ref ra_1), (0, .ref z)] → W p l e room_1 s m args below meth c H locs (110 + ti + 1) (14000 + 4 * ti + 4) (lw_Z below args s) (F0 m 694 ls [.int (nI lo), .int (nI (cntT (rw' S_5 3) 1 (nn (B.1 k) 5)))]) := by
      clear hP hD hS hl
      intro lo _ hlo H locs ls hP hD hS hl
      have hlc : lo ≤ cntT (rw' S_5 3) 1 (nn (B.1 k) 5) := by
        by_cases c9 : dT (rw' (B.1 k) 3 k_11) = 2
        · rw [hlo, if_pos c9]; exact Nat.zero_le _
        · rw [hlo, if_neg c9]; exact di_c q_6 hix c9
      refine lv_icmp_lt (tgt := 715) hx hb dL_law_694 (by decide) (fun c694 => False.elim (by rw [qlt (a := (cntT (rw' S_5 3) 1 (nn (B.1 k) 5))) (b := lo) (by omega) (by omega)] at c694; omega)) (fun _ => ?_)
      refine lv_aload_n hx hb dL_law_697 rfl (lv_at hl 14 rfl) ?_
      refine lv_iload hx hb dL_law_698 (lv_at hl 8 rfl) ?_
      refine lv_iload hx hb dL_law_700 (lv_at hl 2 rfl) ?_
      refine lv_iconst (v := nI 3) hx hb dL_law_702 (by decide) ?_
      have hF := chF [(q_1, .inl (kA 0, 4, .inl fro))] hD hS hA
      refine va_calli (va_runV (As := [.int (nI k), .int (nI k_11), .int (nI 3)]) (rest := []) ⟨hx, hb, hml, hown, hts⟩ (c_X6_ofCell_B3 l D kA z Bn ra_1 k k_11 (by first | assumption | omega) (by first | assumption | omega) (by first | assumption | omega) (by first | assumption | omega) _) (cwV 3 hts h_L_law_17 rfl rfl rfl (by decide +kernel) ⟨Nat.le_of_ble_eq_true rfl, Nat.le_of_ble_eq_true rfl⟩) (fPvB [(q_1, .inl (kA 0, 4, .inl fro))] (hbe) hK hP hD hS hG hF) rfl rfl hl.1 rfl (lv_room (Nat.le_of_ble_eq_true rfl)) dL_law_703 ⟨(Nat.le_trans (Nat.add_le_add_right (show 110 + ti + 1 ≤ 600086 by omega) _) (Nat.le_of_ble_eq_true rfl)), (Nat.le_trans (Nat.add_le_add_right (show 14000 + 4 * ti + 4 ≤ 7301442 by omega) _) (Nat.le_of_ble_eq_true rfl))⟩) hS (fun q _ h => hF q h) hF (fun r_50 w1 t H locs ht hvm hw hB hz1 hk1 hS => ?_)
      obtain ⟨hP, hD⟩ := chJ [(q_1, .inl (kA 0, 4, .inl fro))] hP hD hk1 hF ht hB
      try dsimp only at hw
      obtain ⟨rfl, e_49⟩ := hw
      replace e_49 := e_49.symm
      subst e_49
      have hP : va_P D vwCl ([(q_1, .inl (kA 0, 4, .inl fro))] ++ wB kA Bn) H := hP
      have hD : va_D A ([(q_1, .inl (kA 0, 4, .inl fro))] ++ wB kA Bn) := hD
      refine W.eq (g2 := F0 m 706 ls [.int (nI (max 1 (dT (rw' (B.1 k) 3 k_11))))]) (by rw [show nI (dT (rw' (Bn.1 k) 3 k_11)) = nI (max 1 (dT (rw' (B.1 k) 3 k_11))) from by rw [hBk]; exact congrArg nI (di_1 q_6)]) ?_
      refine lv_iconst (v := nI 1) hx hb dL_law_706 (by decide) ?_
      refine lv_iload hx hb dL_law_707 (lv_at hl 1 rfl) ?_
      refine va_mmax hx hb (by rw [hml]; exact hl.1.symm) hown (wAt hts 41 (w := .methodLink RL 71 Lib.Math.max.name) rfl) (wAt hts 42 (w := .static Lib.Math.max.name) rfl) (wAt hts 43 (w := .initialized "java/lang/Math") rfl) (wAt hts 44 (w := .code Lib.Math.max.name Lib.Math.max.code 2 (some .int)) rfl) (Nat.le_of_ble_eq_true rfl) (Nat.le_of_ble_eq_true rfl) (Nat.le_trans (show 110 + ti + 1 + 0 ≤ 600086 by omega) (Nat.le_of_ble_eq_true rfl)) (Nat.le_trans (show 14000 + 4 * ti + 4 + 0 ≤ 7301442 by omega) (Nat.le_of_ble_eq_true rfl)) dL_law_709 ?_
      rw [qmax (a := 1) (b := (dT (rw' (B.1 k) 3 k_11))) (by omega) (by omega)]
      refine lv_icmp_eq (tgt := 1067) hx hb dL_law_712 (by decide) (fun _ => ?_) (fun c712 => False.elim (by rw [qeq (a := (max 1 (dT (rw' (B.1 k) 3 k_11)))) (b := (max 1 (dT (rw' (B.1 k) 3 k_11)))) (by omega) (by omega)] at c712; omega))
      exact jn_1067 Bn fro (B.2 3) m4 m5 m6 trivial hbe (hLn.le (by omega)) hfn (by omega) (by omega) (by omega) (by omega) _ _ _ hP hD hS (lv_sub hl [5, 11, 12, 13, 3, 10, 14, 15] rfl)
    refine lv_icmp_ne (tgt := 693) hx hb dL_law_686 (by decide) (fun c686 => ?_) (fun c686 => ?_)
    ·
      rw [qeq (a := (dT (rw' (B.1 k) 3 k_11))) (b := 2) (by omega) (by omega)] at c686
      refine lv_iconst (v := nI 1) hx hb dL_law_693 (by decide) ?_
      exact jn_694 1 trivial (by first | rw [if_pos (by omega)] | rw [if_neg (by omega)]) _ _ _ hP hD hS (lv_sub hl [0, 1, 2, 3, 4, 5, 6, 7, 8, 9, 10, 11, 12, 13, 14, 15] rfl)
    ·
      rw [qeq (a := (dT (rw' (B.1 k) 3 k_11))) (b := 2) (by omega) (by omega)] at c686
      refine lv_iconst (v := nI 0) hx hb dL_law_689 (by decide) ?_
      refine lv_goto (tgt := 694) hx hb dL_law_690 (by decide) ?_
      exact jn_694 0 trivial (by first | rw [if_pos (by omega)] | rw [if_neg (by omega)]) _ _ _ hP hD hS (lv_sub hl [0, 1, 2, 3, 4, 5, 6, 7, 8, 9, 10, 11, 12, 13, 14, 15] rfl)
  ·
    rw [qz (a := (nn (B.1 k) 5)) (by omega)] at c641
    refine lv_goto (tgt := 1067) hx hb dL_law_644 (by decide) ?_
    exact jn_1067 B fro (B.2 3) m4 m5 m6 trivial hbe (hL.le (by omega)) hfro (by omega) (by omega) (by omega) (by omega) _ _ _ hP hD hS (lv_sub hl [2, 8, 9, 10, 0, 7, 11, 12] rfl)
set_option maxHeartbeats 4000000 in
set_option maxRecDepth 100000 in
theorem cL_7 (l : Launch) (D : va_G) (kA : Nat → ClassId) (z : Nat) (hfl : l.stackTraces = false) {p : Program} {e : Env} {s : State} {m : MethodId} {args : Array Value} {below : List Frame} {meth : Method} {c : Code} {A : Nat → Prop} {ls0 : Array Slot} (hE : fE p s m args meth c D (tyL kA) z wq_L_law RL cL_law 16 (some .boolean) [.ref z] [] A ls0) (hargs : args = #[Value.ref z]) (hA2 : ∀ q : Nat, A q → s.heap.size ≤ q) (ti : Nat) (ra_1 : Nat) (q_1 : Nat) (B : BS) (m4 : Nat) (m5 : Nat) (m6 : Nat) (k : Nat) (x6 : Int32) (fro : Nat → Int32) (hti4 : ti < 40) (hbe : B.2 0 = ra_1) (hL : LI B (ti + 4)) (hm4 : m4 = B.2 4) (hm5 : m5 = B.2 5) (hm6 : m6 = B.2 6) (hk : k < 4) (hfro : ∀ q, q < 4 → fro q = nI (nn (B.1 q) 5)) (jn_1067 : ∀ (B9 : BS) (fr9 : Nat → Int32) (d9 : Nat) (m49 : Nat) (m59 : Nat) (m69 : Nat) (_ : True), (B9.2 0 = ra_1) → (LI B9 (ti + 5)) → (∀ q, q < 4 → fr9 q = nI (nn (B9.1 q) 5)) → (d9 = B9.2 3) → (m49 = B9.2 4) → (m59 = B9.2 5) → (m69 = B9.2 6) → ∀ (H : Heap) (locs : List Loc) (ls : Array Slot), va_P D vwCl ([(q_1, .inl (kA 0, 4, .inl fr9))] ++ wB kA B9) H → va_D A ([(q_1, .inl (kA 0, 4, .inl fr9))] ++ wB kA B9) → va_S A s.heap H locs → lv_has ls 16 [(10, .int (nI d9)), (4, .int (nI m69)), (3, .int (nI m59)), (2, .int (nI m49)), (12, .ref q_1), (5, .int (nI ti)), (1, .ref ra_1), (0, .ref z)] → W p l e room_1 s m args below meth c H locs (110 + ti + 1) (14000 + 4 * ti + 4) (lw_Z below args s) (F0 m 1067 ls [])) (H : Heap) (locs : List Loc) (ls : Array Slot) (hP : va_P D vwCl ([(q_1, .inl (kA 0, 4, .inl fro))] ++ wB kA B) H) (hD : va_D A ([(q_1, .inl (kA 0, 4, .inl fro))] ++ wB kA B)) (hS : va_S A s.heap H locs) (hl : lv_has ls 16 [(12, .ref q_1), (11, .int (nI (shB B))), (10, .int (nI (B.2 3))), (9, .int (nI (nn (B.1 k) 0))), (8, .int (nI (nn (B.1 k) 5))), (7, .int (nI k)), (6, .int x6), (5, .int (nI ti)), (4, .int (nI m6)), (3, .int (nI m5)), (2, .int (nI m4)), (1, .ref ra_1), (0, .ref z)]) : W p l e room_1 s m args below meth c H locs (110 + ti + 1) (14000 + 4 * ti + 4) (lw_Z below args s) (F0 m 717 ls []) := by
  obtain ⟨hx, hb, hr, hml, hts, hown, hlocks, hA, -, -, hK, -, hG, -⟩ := hE
  have hH : s.heap = s.heap := rfl
  have hI := hL.1
  have hl42 := hL.2.2.1
  have hl52 := hL.2.2.2.1
  have hl62 := hL.2.2.2.2
  have iT := hI.1 k hk
  have hn4 := iT.2.2.2.1
  have hn1 := iT.2.1
  have hc2 := iT.1
  have h34 := hL.2.1 k hk
  have hsk := shS_le (B := B) hk
  have hB4 := shB_le hI
  have hsp0 := hI.2.2.1
  have hdw0 := hI.2.2.2
  refine lv_aload_n hx hb dL_law_717 rfl (lv_at hl 11 rfl) ?_
  refine lv_iload hx hb dL_law_718 (lv_at hl 5 rfl) ?_
  have hF := chF [(q_1, .inl (kA 0, 4, .inl fro))] hD hS hA
  refine va_calli (va_runS (As := [.ref ra_1, .int (nI k)]) (rest := []) ⟨hx, hb, hml, hown, hts⟩ (c_L_gone l D kA z B ra_1 k (by first | assumption | omega) (by first | assumption | omega) (by first | assumption | omega) _) (va_cwS 2 hts h_L_law_23 rfl rfl rfl (by decide +kernel) ⟨Nat.le_of_ble_eq_true rfl, Nat.le_of_ble_eq_true rfl⟩) (fPsB [(q_1, .inl (kA 0, 4, .inl fro))] hK hP hD hS hG hF) rfl rfl hl.1 rfl (lv_room (Nat.le_of_ble_eq_true rfl)) dL_law_720 ⟨(Nat.le_trans (Nat.add_le_add_right (show 110 + ti + 1 ≤ 600086 by omega) _) (Nat.le_of_ble_eq_true rfl)), (Nat.le_trans (Nat.add_le_add_right (show 14000 + 4 * ti + 4 ≤ 7301442 by omega) _) (Nat.le_of_ble_eq_true rfl))⟩) hS (fun q _ h => hF q h) hF (fun r_51 w1 t H locs ht hvm hw hB hz1 hk1 hS => ?_)
  obtain ⟨hP, hD⟩ := chJ [(q_1, .inl (kA 0, 4, .inl fro))] hP hD hk1 hF ht hB
  try dsimp only at hw
  obtain ⟨rfl, e_50⟩ := hw
  replace e_50 := e_50.symm
  subst e_50
  have hP : va_P D vwCl ([(q_1, .inl (kA 0, 4, .inl fro))] ++ wB kA B) H := hP
  have hD : va_D A ([(q_1, .inl (kA 0, 4, .inl fro))] ++ wB kA B) := hD
  refine lv_istore (lv' := [(13, .int (nI (shS (B.1 k)))), (12, .ref q_1), (11, .int (nI (shB B))), (10, .int (nI (B.2 3))), (9, .int (nI (nn (B.1 k) 0))), (8, .int (nI (nn (B.1 k) 5))), (7, .int (nI k)), (6, .int x6), (5, .int (nI ti)), (4, .int (nI m6)), (3, .int (nI m5)), (2, .int (nI m4)), (1, .ref ra_1), (0, .ref z)]) hx hb dL_law_723 hl (by decide) rfl (fun ls hl => ?_)
  refine lv_aload_n hx hb dL_law_725 rfl (lv_at hl 12 rfl) ?_
  refine lv_iload hx hb dL_law_726 (lv_at hl 6 rfl) ?_
  have hF := chF [(q_1, .inl (kA 0, 4, .inl fro))] hD hS hA
  refine va_calli (va_runV (As := [.int (nI k)]) (rest := []) ⟨hx, hb, hml, hown, hts⟩ (c_X6_clean_B l D kA z B ra_1 k (by first | assumption | omega) (by first | assumption | omega) (by first | assumption | omega) _) (cwV 1 hts h_L_law_24 rfl rfl rfl (by decide +kernel) ⟨Nat.le_of_ble_eq_true rfl, Nat.le_of_ble_eq_true rfl⟩) (fPvB [(q_1, .inl (kA 0, 4, .inl fro))] (hbe) hK hP hD hS hG hF) rfl rfl hl.1 rfl (lv_room (Nat.le_of_ble_eq_true rfl)) dL_law_728 ⟨(Nat.le_trans (Nat.add_le_add_right (show 110 + ti + 1 ≤ 600086 by omega) _) (Nat.le_of_ble_eq_true rfl)), (Nat.le_trans (Nat.add_le_add_right (show 14000 + 4 * ti + 4 ≤ 7301442 by omega) _) (Nat.le_of_ble_eq_true rfl))⟩) hS (fun q _ h => hF q h) hF (fun r_52 w1 t H locs ht hvm hw hB hz1 hk1 hS => ?_)
  obtain ⟨hP, hD⟩ := chJ [(q_1, .inl (kA 0, 4, .inl fro))] hP hD hk1 hF ht hB
  try dsimp only at hw
  obtain ⟨S_6, rfl, e_51, q_7⟩ := hw
  replace e_51 := e_51.symm
  subst e_51
  have hP : va_P D vwCl ([(q_1, .inl (kA 0, 4, .inl fro))] ++ wB kA (uP B.1 k S_6, B.2)) H := hP
  have hD : va_D A ([(q_1, .inl (kA 0, 4, .inl fro))] ++ wB kA (uP B.1 k S_6, B.2)) := hD
  obtain ⟨Bn, hBn⟩ : ∃ X : BS, X = (uP B.1 k S_6, B.2) := ⟨_, rfl⟩
  rw [← hBn] at hP hD
  have hBk : Bn.1 k = S_6 := (congrArg (fun X : BS => X.1 k) hBn).trans (uP_at _ _ _)
  have hM0 : Bn.2 0 = B.2 0 := (congrArg (fun X : BS => X.2 0) hBn).trans (rfl)
  have hM2 : Bn.2 2 = B.2 2 := (congrArg (fun X : BS => X.2 2) hBn).trans (rfl)
  have hM3 : Bn.2 3 = B.2 3 := (congrArg (fun X : BS => X.2 3) hBn).trans (rfl)
  have hM4 : Bn.2 4 = B.2 4 := (congrArg (fun X : BS => X.2 4) hBn).trans (rfl)
  have hM5 : Bn.2 5 = B.2 5 := (congrArg (fun X : BS => X.2 5) hBn).trans (rfl)
  have hM6 : Bn.2 6 = B.2 6 := (congrArg (fun X : BS => X.2 6) hBn).trans (rfl)
  have hbe : Bn.2 0 = ra_1 := hM0.trans hbe
  have hLn : LI Bn (ti + 4) := by rw [hBn]; exact LI_T hL hk q_7.1 (congrFun q_7.2.1 3)
  have hI := hLn.1
  have hsp1 := hI.2.2.1
  have hn5 : nn (Bn.1 k) 5 = nn (B.1 k) 5 := (congrArg (fun X => nn X 5) hBk).trans (congrFun q_7.2.1 5)
  have hcl := cl_sh q_7
  have hup : shB Bn + shS (B.1 k) = shB B + shS S_6 := by rw [hBn]; exact shB_up hk S_6 B.2
  have hBn4 := shB_le hI
  have hfn : ∀ q, q < 4 → fro q = nI (nn (Bn.1 q) 5) := by rw [hBn]; exact fr_keep hfro (congrFun q_7.2.1 5)
  have hP : va_P D vwCl ([(q_1, .inl (kA 0, 4, .inl fro))] ++ wB kA Bn) H := hP
  have hD : va_D A ([(q_1, .inl (kA 0, 4, .inl fro))] ++ wB kA Bn) := hD
  refine lv_iload hx hb dL_law_731 (lv_at hl 0 rfl) ?_
  refine lv_icmp_ne (tgt := 746) hx hb dL_law_733 (by decide) (fun c733 => False.elim (by rw [qeq (a := (cntT (rw' S_6 3) 2 (nn (B.1 k) 5))) (b := (shS (B.1 k))) (by omega) (by omega)] at c733; omega)) (fun _ => ?_)
  refine lv_aload_n hx hb dL_law_736 rfl (lv_at hl 12 rfl) ?_
  refine lv_iconst (v := nI 4) hx hb dL_law_737 (by decide) ?_
  have hF := chF [(q_1, .inl (kA 0, 4, .inl fro))] hD hS hA
  refine va_calli (va_runV (As := [.int (nI 4)]) (rest := []) ⟨hx, hb, hml, hown, hts⟩ (c_X6_many_B4 l D kA z Bn ra_1 (by first | assumption | omega) (by first | assumption | omega) _) (cwV 1 hts h_L_law_9 rfl rfl rfl (by decide +kernel) ⟨Nat.le_of_ble_eq_true rfl, Nat.le_of_ble_eq_true rfl⟩) (fPvB [(q_1, .inl (kA 0, 4, .inl fro))] (hbe) hK hP hD hS hG hF) rfl rfl hl.1 rfl (lv_room (Nat.le_of_ble_eq_true rfl)) dL_law_738 ⟨(Nat.le_trans (Nat.add_le_add_right (show 110 + ti + 1 ≤ 600086 by omega) _) (Nat.le_of_ble_eq_true rfl)), (Nat.le_trans (Nat.add_le_add_right (show 14000 + 4 * ti + 4 ≤ 7301442 by omega) _) (Nat.le_of_ble_eq_true rfl))⟩) hS (fun q _ h => hF q h) hF (fun r_53 w1 t H locs ht hvm hw hB hz1 hk1 hS => ?_)
  obtain ⟨hP, hD⟩ := chJ [(q_1, .inl (kA 0, 4, .inl fro))] hP hD hk1 hF ht hB
  try dsimp only at hw
  obtain ⟨rfl, e_52⟩ := hw
  replace e_52 := e_52.symm
  subst e_52
  have hP : va_P D vwCl ([(q_1, .inl (kA 0, 4, .inl fro))] ++ wB kA Bn) H := hP
  have hD : va_D A ([(q_1, .inl (kA 0, 4, .inl fro))] ++ wB kA Bn) := hD
  refine lv_iload hx hb dL_law_741 (lv_at hl 2 rfl) ?_
  refine lv_icmp_eq (tgt := 748) hx hb dL_law_743 (by decide) (fun _ => ?_) (fun c743 => False.elim (by rw [qeq (a := (shB Bn)) (b := (shB B)) (by omega) (by omega)] at c743; omega))
  refine lv_iconst (v := nI 0) hx hb dL_law_748 (by decide) ?_
  refine lv_istore (lv' := [(14, .int (nI 0)), (13, .int (nI (shS (B.1 k)))), (12, .ref q_1), (11, .int (nI (shB B))), (10, .int (nI (B.2 3))), (9, .int (nI (nn (B.1 k) 0))), (8, .int (nI (nn (B.1 k) 5))), (7, .int (nI k)), (6, .int x6), (5, .int (nI ti)), (4, .int (nI m6)), (3, .int (nI m5)), (2, .int (nI m4)), (1, .ref ra_1), (0, .ref z)]) hx hb dL_law_749 hl (by decide) rfl (fun ls hl => ?_)
  have lp_751 : ∀ (n_751 : Nat) (j : Nat), nn (B.1 k) 5 - j < n_751 → (j ≤ nn (B.1 k) 5) → ∀ (H : Heap) (locs : List Loc) (ls : Array Slot), va_P D vwCl ([(q_1, .inl (kA 0, 4, .inl fro))] ++ wB kA Bn) H → va_D A ([(q_1, .inl (kA 0, 4, .inl fro))] ++ wB kA Bn) → va_S A s.heap H locs → lv_has ls 16 [(14, .int (nI j)), (13, .int (nI (shS (B.1 k)))), (12, .ref q_1), (11, .int (nI (shB B))), (10, .int (nI (B.2 3))), (9, .int (nI (nn (B.1 k) 0))), (8, .int (nI (nn (B.1 k) 5))), (7, .int (nI k)), (6, .int x6), (5, .int (nI ti)), (4, .int (nI m6)), (3, .int (nI m5)), (2, .int (nI m4)), (1, .ref ra_1), (0, .ref z)] → W p l e room_1 s m args below meth c H locs (110 + ti + 1) (14000 + 4 * ti + 4) (lw_Z below args s) (F0 m 751 ls []) := by
    clear hP hD hS hl
    intro n_751
    induction n_751 with
    | zero =>
      intro j hm_751 hj
      exact absurd hm_751 (by omega)
    | succ n_751 ih_751 =>
      intro j hm_751 hj H locs ls hP hD hS hl
      refine lv_iload hx hb dL_law_751 (lv_at hl 0 rfl) ?_
      refine lv_iload hx hb dL_law_753 (lv_at hl 6 rfl) ?_
      refine lv_icmp_ge (tgt := 779) hx hb dL_law_755 (by decide) (fun c755 => ?_) (fun c755 => ?_)
      ·
        rw [qle (a := (nn (B.1 k) 5)) (b := j) (by omega) (by omega)] at c755
        refine lv_goto (tgt := 1067) hx hb dL_law_779 (by decide) ?_
        exact jn_1067 Bn fro (B.2 3) m4 m5 m6 trivial hbe (hLn.le (by omega)) hfn (by omega) (by omega) (by omega) (by omega) _ _ _ hP hD hS (lv_sub hl [4, 10, 11, 12, 2, 9, 13, 14] rfl)
      ·
        rw [qle (a := (nn (B.1 k) 5)) (b := j) (by omega) (by omega)] at c755
        refine lv_aload_n hx hb dL_law_758 rfl (lv_at hl 13 rfl) ?_
        refine lv_iload hx hb dL_law_759 (lv_at hl 7 rfl) ?_
        refine lv_iload hx hb dL_law_761 (lv_at hl 0 rfl) ?_
        refine lv_iconst (v := nI 3) hx hb dL_law_763 (by decide) ?_
        have hF := chF [(q_1, .inl (kA 0, 4, .inl fro))] hD hS hA
        refine va_calli (va_runV (As := [.int (nI k), .int (nI j), .int (nI 3)]) (rest := []) ⟨hx, hb, hml, hown, hts⟩ (c_X6_ofCell_B3 l D kA z Bn ra_1 k j (by first | assumption | omega) (by first | assumption | omega) (by first | assumption | omega) (by first | assumption | omega) _) (cwV 3 hts h_L_law_17 rfl rfl rfl (by decide +kernel) ⟨Nat.le_of_ble_eq_true rfl, Nat.le_of_ble_eq_true rfl⟩) (fPvB [(q_1, .inl (kA 0, 4, .inl fro))] (hbe) hK hP hD hS hG hF) rfl rfl hl.1 rfl (lv_room (Nat.le_of_ble_eq_true rfl)) dL_law_764 ⟨(Nat.le_trans (Nat.add_le_add_right (show 110 + ti + 1 ≤ 600086 by omega) _) (Nat.le_of_ble_eq_true rfl)), (Nat.le_trans (Nat.add_le_add_right (show 14000 + 4 * ti + 4 ≤ 7301442 by omega) _) (Nat.le_of_ble_eq_true rfl))⟩) hS (fun q _ h => hF q h) hF (fun r_54 w1 t H locs ht hvm hw hB hz1 hk1 hS => ?_)
        obtain ⟨hP, hD⟩ := chJ [(q_1, .inl (kA 0, 4, .inl fro))] hP hD hk1 hF ht hB
        try dsimp only at hw
        obtain ⟨rfl, e_53⟩ := hw
        replace e_53 := e_53.symm
        subst e_53
        have hP : va_P D vwCl ([(q_1, .inl (kA 0, 4, .inl fro))] ++ wB kA Bn) H := hP
        have hD : va_D A ([(q_1, .inl (kA 0, 4, .inl fro))] ++ wB kA Bn) := hD
        have hno : dT (rw' (Bn.1 k) 3 j) ≠ 1 := by rw [hBk]; exact cl_no1 q_7 (by omega)
        have hdl := dT_le (rw' (Bn.1 k) 3 j)
        refine lv_iconst (v := nI 1) hx hb dL_law_767 (by decide) ?_
        refine lv_icmp_ne (tgt := 773) hx hb dL_law_768 (by decide) (fun _ => ?_) (fun c768 => False.elim (by rw [qeq (a := (dT (rw' (Bn.1 k) 3 j))) (b := 1) (by omega) (by omega)] at c768; omega))
        refine lv_iinc (v := nI (j + 1)) (lv' := [(14, .int (nI (j + 1))), (13, .int (nI (shS (B.1 k)))), (12, .ref q_1), (11, .int (nI (shB B))), (10, .int (nI (B.2 3))), (9, .int (nI (nn (B.1 k) 0))), (8, .int (nI (nn (B.1 k) 5))), (7, .int (nI k)), (6, .int x6), (5, .int (nI ti)), (4, .int (nI m6)), (3, .int (nI m5)), (2, .int (nI m4)), (1, .ref ra_1), (0, .ref z)]) hx hb dL_law_773 hl (k := 0) rfl (nI_add j 1) (by decide) rfl (fun ls hl => ?_)
        refine lv_goto (tgt := 751) hx hb dL_law_776 (by decide) ?_
        exact ih_751 (j + 1) (by omega) (by first | assumption | omega | rfl) _ _ _ hP hD hS (lv_sub hl [0, 1, 2, 3, 4, 5, 6, 7, 8, 9, 10, 11, 12, 13, 14] rfl)
  exact lp_751 (nn (B.1 k) 5 + 1) 0 (by omega) (by first | assumption | omega | rfl) _ _ _ hP hD hS (lv_sub hl [0, 1, 2, 3, 4, 5, 6, 7, 8, 9, 10, 11, 12, 13, 14] rfl)
set_option maxHeartbeats 4000000 in
set_option maxRecDepth 100000 in
theorem cL_8 (l : Launch) (D : va_G) (kA : Nat → ClassId) (z : Nat) (hfl : l.stackTraces = false) {p : Program} {e : Env} {s : State} {m : MethodId} {args : Array Value} {below : List Frame} {meth : Method} {c : Code} {A : Nat → Prop} {ls0 : Array Slot} (hE : fE p s m args meth c D (tyL kA) z wq_L_law RL cL_law 16 (some .boolean) [.ref z] [] A ls0) (hargs : args = #[Value.ref z]) (hA2 : ∀ q : Nat, A q → s.heap.size ≤ q) (ti : Nat) (ra_1 : Nat) (q_1 : Nat) (B : BS) (m4 : Nat) (m5 : Nat) (m6 : Nat) (k : Nat) (x6 : Int32) (fro : Nat → Int32) (hti4 : ti < 40) (hbe : B.2 0 = ra_1) (hL : LI B (ti + 4)) (hm4 : m4 = B.2 4) (hm5 : m5 = B.2 5) (hm6 : m6 = B.2 6) (hk : k < 4) (hfro : ∀ q, q < 4 → fro q = nI (nn (B.1 q) 5)) (jn_1067 : ∀ (B9 : BS) (fr9 : Nat → Int32) (d9 : Nat) (m49 : Nat) (m59 : Nat) (m69 : Nat) (_ : True), (B9.2 0 = ra_1) → (LI B9 (ti + 5)) → (∀ q, q < 4 → fr9 q = nI (nn (B9.1 q) 5)) → (d9 = B9.2 3) → (m49 = B9.2 4) → (m59 = B9.2 5) → (m69 = B9.2 6) → ∀ (H : Heap) (locs : List Loc) (ls : Array Slot), va_P D vwCl ([(q_1, .inl (kA 0, 4, .inl fr9))] ++ wB kA B9) H → va_D A ([(q_1, .inl (kA 0, 4, .inl fr9))] ++ wB kA B9) → va_S A s.heap H locs → lv_has ls 16 [(10, .int (nI d9)), (4, .int (nI m69)), (3, .int (nI m59)), (2, .int (nI m49)), (12, .ref q_1), (5, .int (nI ti)), (1, .ref ra_1), (0, .ref z)] → W p l e room_1 s m args below meth c H locs (110 + ti + 1) (14000 + 4 * ti + 4) (lw_Z below args s) (F0 m 1067 ls [])) (H : Heap) (locs : List Loc) (ls : Array Slot) (hP : va_P D vwCl ([(q_1, .inl (kA 0, 4, .inl fro))] ++ wB kA B) H) (hD : va_D A ([(q_1, .inl (kA 0, 4, .inl fro))] ++ wB kA B)) (hS : va_S A s.heap H locs) (hl : lv_has ls 16 [(12, .ref q_1), (11, .int (nI (shB B))), (10, .int (nI (B.2 3))), (9, .int (nI (nn (B.1 k) 0))), (8, .int (nI (nn (B.1 k) 5))), (7, .int (nI k)), (6, .int x6), (5, .int (nI ti)), (4, .int (nI m6)), (3, .int (nI m5)), (2, .int (nI m4)), (1, .ref ra_1), (0, .ref z)]) : W p l e room_1 s m args below meth c H locs (110 + ti + 1) (14000 + 4 * ti + 4) (lw_Z below args s) (F0 m 782 ls []) := by
  obtain ⟨hx, hb, hr, hml, hts, hown, hlocks, hA, -, -, hK, -, hG, -⟩ := hE
  have hH : s.heap = s.heap := rfl
  have hI := hL.1
  have hl42 := hL.2.2.1
  have hl52 := hL.2.2.2.1
  have hl62 := hL.2.2.2.2
  have iT := hI.1 k hk
  have hn4 := iT.2.2.2.1
  have hn1 := iT.2.1
  have hc2 := iT.1
  have h34 := hL.2.1 k hk
  have hsk := shS_le (B := B) hk
  have hB4 := shB_le hI
  have hsp0 := hI.2.2.1
  have hdw0 := hI.2.2.2
  refine lv_iload hx hb dL_law_782 (lv_at hl 5 rfl) ?_
  refine lv_iconst (v := nI 1) hx hb dL_law_784 (by decide) ?_
  refine lv_iadd hx hb dL_law_785 ?_
  rw [nI_add k 1]
  refine lv_iconst (v := nI 4) hx hb dL_law_786 (by decide) ?_
  refine lv_irem hx hb dL_law_787 (by decide) ?_
  rw [pk_rem (a := (k + 1)) (d := 4) (by omega) (by omega) (by omega)]
  obtain ⟨k2, hk2⟩ : ∃ k2, k2 = (k + 1) % 4 := ⟨_, rfl⟩
  have hk24 : k2 < 4 := by omega
  have iT2 := hI.1 k2 hk24
  have hsk2 := shS_le (B := B) hk24
  refine W.eq (g2 := F0 m 788 ls [.int (nI k2)]) (by rw [show nI ((k + 1) % 4) = nI k2 from by rw [hk2]]) ?_
  refine lv_istore (lv' := [(13, .int (nI k2)), (12, .ref q_1), (11, .int (nI (shB B))), (10, .int (nI (B.2 3))), (9, .int (nI (nn (B.1 k) 0))), (8, .int (nI (nn (B.1 k) 5))), (7, .int (nI k)), (6, .int x6), (5, .int (nI ti)), (4, .int (nI m6)), (3, .int (nI m5)), (2, .int (nI m4)), (1, .ref ra_1), (0, .ref z)]) hx hb dL_law_788 hl (by decide) rfl (fun ls hl => ?_)
  refine lv_iload hx hb dL_law_790 (lv_at hl 7 rfl) ?_
  refine lv_bipush (v := nI 6) hx hb dL_law_792 (by decide) ?_
  refine lv_ishr hx hb dL_law_794 ?_
  refine lv_iconst (v := nI 2) hx hb dL_law_795 (by decide) ?_
  have hF := chF0 hS hA
  refine va_calli (va_runS (As := [.int (x6 >>> ((nI 6) &&& 31)), .int (nI 2)]) (rest := []) ⟨hx, hb, hml, hown, hts⟩ (c_L_below l D kA z (x6 >>> ((nI 6) &&& 31)) 2 (by first | assumption | omega) (by first | assumption | omega) _) (va_cwS 2 hts h_L_law_1 rfl rfl rfl (by decide +kernel) ⟨Nat.le_of_ble_eq_true rfl, Nat.le_of_ble_eq_true rfl⟩) (fPs0 hK hS hG hF) rfl rfl hl.1 rfl (lv_room (Nat.le_of_ble_eq_true rfl)) dL_law_796 ⟨(Nat.le_trans (Nat.add_le_add_right (show 110 + ti + 1 ≤ 600086 by omega) _) (Nat.le_of_ble_eq_true rfl)), (Nat.le_trans (Nat.add_le_add_right (show 14000 + 4 * ti + 4 ≤ 7301442 by omega) _) (Nat.le_of_ble_eq_true rfl))⟩) hS (fun q _ h => hF q h) hF (fun r_55 w1 t H locs ht hvm hw hB hz1 hk1 hS => ?_)
  obtain ⟨hP, hD⟩ := chJ0 hP hD hk1 hF ht hB
  try dsimp only at hw
  obtain ⟨k_12, rfl, e_54, hkq_12⟩ := hw
  rw [List.append_nil] at hP hD
  replace e_54 := e_54.symm
  subst e_54
  have hP : va_P D vwCl ([(q_1, .inl (kA 0, 4, .inl fro))] ++ wB kA B) H := hP
  have hD : va_D A ([(q_1, .inl (kA 0, 4, .inl fro))] ++ wB kA B) := hD
  refine lv_if_ne (tgt := 806) hx hb dL_law_799 (by decide) (fun c799 => ?_) (fun c799 => ?_)
  ·
    rw [qz (a := k_12) (by omega)] at c799
    refine lv_iconst (v := nI 0) hx hb dL_law_806 (by decide) ?_
    refine lv_istore (lv' := [(14, .int (nI 0)), (13, .int (nI k2)), (12, .ref q_1), (11, .int (nI (shB B))), (10, .int (nI (B.2 3))), (9, .int (nI (nn (B.1 k) 0))), (8, .int (nI (nn (B.1 k) 5))), (7, .int (nI k)), (6, .int x6), (5, .int (nI ti)), (4, .int (nI m6)), (3, .int (nI m5)), (2, .int (nI m4)), (1, .ref ra_1), (0, .ref z)]) hx hb dL_law_807 hl (by decide) rfl (fun ls hl => ?_)
    refine lv_aload_n hx hb dL_law_809 rfl (lv_at hl 13 rfl) ?_
    refine lv_iload hx hb dL_law_810 (lv_at hl 7 rfl) ?_
    refine lv_iconst (v := nI 2) hx hb dL_law_812 (by decide) ?_
    have hF := chF [(q_1, .inl (kA 0, 4, .inl fro))] hD hS hA
    refine va_calli (va_runV (As := [.int (nI k), .int (nI 2)]) (rest := []) ⟨hx, hb, hml, hown, hts⟩ (c_X6_ofTrack_B2 l D kA z B ra_1 k (by first | assumption | omega) (by first | assumption | omega) (by first | assumption | omega) _) (cwV 2 hts h_L_law_25 rfl rfl rfl (by decide +kernel) ⟨Nat.le_of_ble_eq_true rfl, Nat.le_of_ble_eq_true rfl⟩) (fPvB [(q_1, .inl (kA 0, 4, .inl fro))] (hbe) hK hP hD hS hG hF) rfl rfl hl.1 rfl (lv_room (Nat.le_of_ble_eq_true rfl)) dL_law_813 ⟨(Nat.le_trans (Nat.add_le_add_right (show 110 + ti + 1 ≤ 600086 by omega) _) (Nat.le_of_ble_eq_true rfl)), (Nat.le_trans (Nat.add_le_add_right (show 14000 + 4 * ti + 4 ≤ 7301442 by omega) _) (Nat.le_of_ble_eq_true rfl))⟩) hS (fun q _ h => hF q h) hF (fun r_56 w1 t H locs ht hvm hw hB hz1 hk1 hS => ?_)
    obtain ⟨hP, hD⟩ := chJ [(q_1, .inl (kA 0, 4, .inl fro))] hP hD hk1 hF ht hB
    try dsimp only at hw
    obtain ⟨rfl, e_55⟩ := hw
    replace e_55 := e_55.symm
    subst e_55
    have hP : va_P D vwCl ([(q_1, .inl (kA 0, 4, .inl fro))] ++ wB kA B) H := hP
    have hD : va_D A ([(q_1, .inl (kA 0, 4, .inl fro))] ++ wB kA B) := hD
    refine lv_if_ne (tgt := 822) hx hb dL_law_816 (by decide) (fun c816 => ?_) (fun c816 => ?_)
    ·
      rw [qz (a := (nn (B.1 k) 1)) (by omega)] at c816
      refine lv_iload hx hb dL_law_822 (lv_at hl 0 rfl) ?_
      refine lv_if_eq (tgt := 837) hx hb dL_law_824 (by decide) (fun _ => ?_) (fun c824 => absurd (by decide) c824)
      refine lv_aload_n hx hb dL_law_837 rfl (lv_at hl 13 rfl) ?_
      refine lv_iload hx hb dL_law_838 (lv_at hl 7 rfl) ?_
      have hF := chF [(q_1, .inl (kA 0, 4, .inl fro))] hD hS hA
      refine va_calli (va_runV (As := [.int (nI k)]) (rest := []) ⟨hx, hb, hml, hown, hts⟩ (c_X6_plainLong_B l D kA z B ra_1 k (by first | assumption | omega) (by first | assumption | omega) (by first | assumption | omega) _) (cwV 1 hts h_L_law_26 rfl rfl rfl (by decide +kernel) ⟨Nat.le_of_ble_eq_true rfl, Nat.le_of_ble_eq_true rfl⟩) (fPvB [(q_1, .inl (kA 0, 4, .inl fro))] (hbe) hK hP hD hS hG hF) rfl rfl hl.1 rfl (lv_room (Nat.le_of_ble_eq_true rfl)) dL_law_840 ⟨(Nat.le_trans (Nat.add_le_add_right (show 110 + ti + 1 ≤ 600086 by omega) _) (Nat.le_of_ble_eq_true rfl)), (Nat.le_trans (Nat.add_le_add_right (show 14000 + 4 * ti + 4 ≤ 7301442 by omega) _) (Nat.le_of_ble_eq_true rfl))⟩) hS (fun q _ h => hF q h) hF (fun r_57 w1 t H locs ht hvm hw hB hz1 hk1 hS => ?_)
      obtain ⟨hP, hD⟩ := chJ [(q_1, .inl (kA 0, 4, .inl fro))] hP hD hk1 hF ht hB
      try dsimp only at hw
      obtain ⟨rfl, e_56⟩ := hw
      replace e_56 := e_56.symm
      subst e_56
      have hP : va_P D vwCl ([(q_1, .inl (kA 0, 4, .inl fro))] ++ wB kA B) H := hP
      have hD : va_D A ([(q_1, .inl (kA 0, 4, .inl fro))] ++ wB kA B) := hD
      have hvl4 := iT.vl4
      have hpl4 := iT.own.2.2.2.1
      refine lv_istore (lv' := [(15, .int (nI (plS (B.1 k)))), (14, .int (nI 0)), (13, .int (nI k2)), (12, .ref q_1), (11, .int (nI (shB B))), (10, .int (nI (B.2 3))), (9, .int (nI (nn (B.1 k) 0))), (8, .int (nI (nn (B.1 k) 5))), (7, .int (nI k)), (6, .int x6), (5, .int (nI ti)), (4, .int (nI m6)), (3, .int (nI m5)), (2, .int (nI m4)), (1, .ref ra_1), (0, .ref z)]) hx hb dL_law_843 hl (by decide) rfl (fun ls hl => ?_)
      refine lv_aload hx hb dL_law_845 (lv_at hl 3 rfl) ?_
      refine lv_iload hx hb dL_law_847 (lv_at hl 2 rfl) ?_
      refine lv_iload hx hb dL_law_849 (lv_at hl 0 rfl) ?_
      refine va_iast hx hb hK hP hD hS 0 0 rfl rfl (vp_in_nI (n := k2) (by omega) (by decide)) dL_law_851 (fun H locs hP hD hS => ?_)
      rw [nI_clamp (n := k2) (by omega)] at hP hD
      have hP : va_P D vwCl ([(q_1, .inl (kA 0, 4, .inl (upd fro k2 (nI (plS (B.1 k))))))] ++ wB kA B) H := hP
      have hD : va_D A ([(q_1, .inl (kA 0, 4, .inl (upd fro k2 (nI (plS (B.1 k))))))] ++ wB kA B) := hD
      refine lv_iload_n hx hb dL_law_852 rfl (lv_at hl 12 rfl) ?_
      refine lv_iload hx hb dL_law_853 (lv_at hl 1 rfl) ?_
      refine lv_if_eq (tgt := 862) hx hb dL_law_855 (by decide) (fun _ => ?_) (fun c855 => absurd (by decide) c855)
      refine lv_iconst (v := nI 1) hx hb dL_law_862 (by decide) ?_
      refine lv_iadd hx hb dL_law_863 ?_
      rw [nI_add m5 1]
      refine lv_istore_n (lv' := [(3, .int (nI (m5 + 1))), (15, .int (nI (plS (B.1 k)))), (14, .int (nI 0)), (13, .int (nI k2)), (12, .ref q_1), (11, .int (nI (shB B))), (10, .int (nI (B.2 3))), (9, .int (nI (nn (B.1 k) 0))), (8, .int (nI (nn (B.1 k) 5))), (7, .int (nI k)), (6, .int x6), (5, .int (nI ti)), (4, .int (nI m6)), (2, .int (nI m4)), (1, .ref ra_1), (0, .ref z)]) hx hb dL_law_864 rfl hl (by decide) rfl (fun ls hl => ?_)
      refine lv_iload hx hb dL_law_865 (lv_at hl 12 rfl) ?_
      refine lv_iload hx hb dL_law_867 (lv_at hl 2 rfl) ?_
      refine lv_if_eq (tgt := 876) hx hb dL_law_869 (by decide) (fun _ => ?_) (fun c869 => absurd (by decide) c869)
      refine lv_iconst (v := nI 0) hx hb dL_law_876 (by decide) ?_
      refine lv_iadd hx hb dL_law_877 ?_
      rw [nI_add m6 0]
      refine lv_istore (lv' := [(4, .int (nI (m6 + 0))), (3, .int (nI (m5 + 1))), (15, .int (nI (plS (B.1 k)))), (14, .int (nI 0)), (13, .int (nI k2)), (12, .ref q_1), (11, .int (nI (shB B))), (10, .int (nI (B.2 3))), (9, .int (nI (nn (B.1 k) 0))), (8, .int (nI (nn (B.1 k) 5))), (7, .int (nI k)), (6, .int x6), (5, .int (nI ti)), (2, .int (nI m4)), (1, .ref ra_1), (0, .ref z)]) hx hb dL_law_878 hl (by decide) rfl (fun ls hl => ?_)
      refine lv_iload hx hb dL_law_880 (lv_at hl 6 rfl) ?_
      refine lv_aload_n hx hb dL_law_882 rfl (lv_at hl 14 rfl) ?_
      refine lv_iload hx hb dL_law_883 (lv_at hl 4 rfl) ?_
      have hF := chF [(q_1, .inl (kA 0, 4, .inl (upd fro k2 (nI (plS (B.1 k))))))] hD hS hA
      refine va_calli (va_runS (As := [.ref ra_1, .int (nI k2)]) (rest := [.int (nI (shB B))]) ⟨hx, hb, hml, hown, hts⟩ (c_L_gone l D kA z B ra_1 k2 (by first | assumption | omega) (by first | assumption | omega) (by first | assumption | omega) _) (va_cwS 2 hts h_L_law_23 rfl rfl rfl (by decide +kernel) ⟨Nat.le_of_ble_eq_true rfl, Nat.le_of_ble_eq_true rfl⟩) (fPsB [(q_1, .inl (kA 0, 4, .inl (upd fro k2 (nI (plS (B.1 k))))))] hK hP hD hS hG hF) rfl rfl hl.1 rfl (lv_room (Nat.le_of_ble_eq_true rfl)) dL_law_885 ⟨(Nat.le_trans (Nat.add_le_add_right (show 110 + ti + 1 ≤ 600086 by omega) _) (Nat.le_of_ble_eq_true rfl)), (Nat.le_trans (Nat.add_le_add_right (show 14000 + 4 * ti + 4 ≤ 7301442 by omega) _) (Nat.le_of_ble_eq_true rfl))⟩) hS (fun q _ h => hF q h) hF (fun r_58 w1 t H locs ht hvm hw hB hz1 hk1 hS => ?_)
      obtain ⟨hP, hD⟩ := chJ [(q_1, .inl (kA 0, 4, .inl (upd fro k2 (nI (plS (B.1 k))))))] hP hD hk1 hF ht hB
      try dsimp only at hw
      obtain ⟨rfl, e_57⟩ := hw
      replace e_57 := e_57.symm
      subst e_57
      have hP : va_P D vwCl ([(q_1, .inl (kA 0, 4, .inl (upd fro k2 (nI (plS (B.1 k))))))] ++ wB kA B) H := hP
      have hD : va_D A ([(q_1, .inl (kA 0, 4, .inl (upd fro k2 (nI (plS (B.1 k))))))] ++ wB kA B) := hD
      refine lv_isub hx hb dL_law_888 ?_
      rw [pk_sub (a := (shB B)) (b := (shS (B.1 k2))) (by omega)]
      refine lv_istore (lv' := [(11, .int (nI (shB B - (shS (B.1 k2))))), (4, .int (nI (m6 + 0))), (3, .int (nI (m5 + 1))), (15, .int (nI (plS (B.1 k)))), (14, .int (nI 0)), (13, .int (nI k2)), (12, .ref q_1), (10, .int (nI (B.2 3))), (9, .int (nI (nn (B.1 k) 0))), (8, .int (nI (nn (B.1 k) 5))), (7, .int (nI k)), (6, .int x6), (5, .int (nI ti)), (2, .int (nI m4)), (1, .ref ra_1), (0, .ref z)]) hx hb dL_law_889 hl (by decide) rfl (fun ls hl => ?_)
      refine lv_aload_n hx hb dL_law_891 rfl (lv_at hl 14 rfl) ?_
      refine lv_iload hx hb dL_law_892 (lv_at hl 10 rfl) ?_
      refine lv_iload hx hb dL_law_894 (lv_at hl 5 rfl) ?_
      refine lv_iload hx hb dL_law_896 (lv_at hl 4 rfl) ?_
      have hF := chF [(q_1, .inl (kA 0, 4, .inl (upd fro k2 (nI (plS (B.1 k))))))] hD hS hA
      refine va_calli (va_runV (As := [.int (nI k), .int (nI k2), .int (nI 0)]) (rest := []) ⟨hx, hb, hml, hown, hts⟩ (c_X6_copy_pB l D kA z B ra_1 k k2 (by first | assumption | omega) (by first | assumption | omega) (by first | assumption | omega) (by first | assumption | omega) (by first | assumption | omega) _) (cwV 3 hts h_L_law_27 rfl rfl rfl (by decide +kernel) ⟨Nat.le_of_ble_eq_true rfl, Nat.le_of_ble_eq_true rfl⟩) (fPvB [(q_1, .inl (kA 0, 4, .inl (upd fro k2 (nI (plS (B.1 k))))))] (hbe) hK hP hD hS hG hF) rfl rfl hl.1 rfl (lv_room (Nat.le_of_ble_eq_true rfl)) dL_law_898 ⟨(Nat.le_trans (Nat.add_le_add_right (show 110 + ti + 1 ≤ 600086 by omega) _) (Nat.le_of_ble_eq_true rfl)), (Nat.le_trans (Nat.add_le_add_right (show 14000 + 4 * ti + 4 ≤ 7301442 by omega) _) (Nat.le_of_ble_eq_true rfl))⟩) hS (fun q _ h => hF q h) hF (fun r_59 w1 t H locs ht hvm hw hB hz1 hk1 hS => ?_)
      obtain ⟨hP, hD⟩ := chJ [(q_1, .inl (kA 0, 4, .inl (upd fro k2 (nI (plS (B.1 k))))))] hP hD hk1 hF ht hB
      try dsimp only at hw
      obtain ⟨S_7, rfl, e_58, q_8, h_1⟩ := hw
      replace e_58 := e_58.symm
      subst e_58
      have hP : va_P D vwCl ([(q_1, .inl (kA 0, 4, .inl (upd fro k2 (nI (plS (B.1 k))))))] ++ wB kA (uP B.1 k2 S_7, uP B.2 5 (B.2 5 + 1))) H := hP
      have hD : va_D A ([(q_1, .inl (kA 0, 4, .inl (upd fro k2 (nI (plS (B.1 k))))))] ++ wB kA (uP B.1 k2 S_7, uP B.2 5 (B.2 5 + 1))) := hD
      obtain ⟨Bn, hBn⟩ : ∃ X : BS, X = (uP B.1 k2 S_7, uP B.2 5 (B.2 5 + 1)) := ⟨_, rfl⟩
      rw [← hBn] at hP hD
      have hBk : Bn.1 k2 = S_7 := (congrArg (fun X : BS => X.1 k2) hBn).trans (uP_at _ _ _)
      have hM0 : Bn.2 0 = B.2 0 := (congrArg (fun X : BS => X.2 0) hBn).trans (uP_ne (α := Nat) B.2 (k := 5) (j := 0) (B.2 5 + 1) (by decide))
      have hM2 : Bn.2 2 = B.2 2 := (congrArg (fun X : BS => X.2 2) hBn).trans (uP_ne (α := Nat) B.2 (k := 5) (j := 2) (B.2 5 + 1) (by decide))
      have hM3 : Bn.2 3 = B.2 3 := (congrArg (fun X : BS => X.2 3) hBn).trans (uP_ne (α := Nat) B.2 (k := 5) (j := 3) (B.2 5 + 1) (by decide))
      have hM4 : Bn.2 4 = B.2 4 := (congrArg (fun X : BS => X.2 4) hBn).trans (uP_ne (α := Nat) B.2 (k := 5) (j := 4) (B.2 5 + 1) (by decide))
      have hM5 : Bn.2 5 = B.2 5 + 1 := (congrArg (fun X : BS => X.2 5) hBn).trans (uP_at (α := Nat) B.2 5 (B.2 5 + 1))
      have hM6 : Bn.2 6 = B.2 6 := (congrArg (fun X : BS => X.2 6) hBn).trans (uP_ne (α := Nat) B.2 (k := 5) (j := 6) (B.2 5 + 1) (by decide))
      have hbe : Bn.2 0 = ra_1 := hM0.trans hbe
      have hLn : LI Bn (ti + 5) := by rw [hBn]; exact LI_C hL hk24 q_8.1 (by decide) h_1
      have hI := hLn.1
      have hsp1 := hI.2.2.1
      have hn5 : nn (Bn.1 k2) 5 = _ := (congrArg (fun X => nn X 5) hBk).trans q_8.2.2.2.1
      have hz1 : nn (Bn.1 k2) 1 = 0 := (congrArg (fun X => nn X 1) hBk).trans q_8.2.2.1
      have hz0 : nn (Bn.1 k2) 0 = nn (B.1 k) 0 := (congrArg (fun X => nn X 0) hBk).trans q_8.2.1
      have hup : shB Bn + shS (B.1 k2) = shB B + shS S_7 := by rw [hBn]; exact shB_up hk24 S_7 _
      have hcp := cp_sh q_8
      have hBn4 := shB_le hI
      obtain ⟨fr2, hfr2⟩ : ∃ X : Nat → Int32, X = upd fro k2 (nI (plS (B.1 k))) := ⟨_, rfl⟩
      rw [← hfr2] at hP hD
      have hf2k : fr2 k2 = nI (plS (B.1 k)) := by rw [hfr2]; exact upd_at _ _ _
      have hfn : ∀ q, q < 4 → fr2 q = nI (nn (Bn.1 q) 5) := by rw [hfr2, hBn]; exact fr_up hfro q_8.2.2.2.1
      have hP : va_P D vwCl ([(q_1, .inl (kA 0, 4, .inl fr2))] ++ wB kA Bn) H := hP
      have hD : va_D A ([(q_1, .inl (kA 0, 4, .inl fr2))] ++ wB kA Bn) := hD
      refine lv_iload hx hb dL_law_901 (lv_at hl 3 rfl) ?_
      refine lv_icmp_ne (tgt := 954) hx hb dL_law_903 (by decide) (fun c903 => False.elim (by rw [qeq (a := (plS (B.1 k))) (b := (plS (B.1 k))) (by omega) (by omega)] at c903; omega)) (fun _ => ?_)
      refine lv_aload_n hx hb dL_law_906 rfl (lv_at hl 14 rfl) ?_
      refine lv_iload hx hb dL_law_907 (lv_at hl 5 rfl) ?_
      refine lv_iconst (v := nI 2) hx hb dL_law_909 (by decide) ?_
      have hF := chF [(q_1, .inl (kA 0, 4, .inl fr2))] hD hS hA
      refine va_calli (va_runV (As := [.int (nI k2), .int (nI 2)]) (rest := []) ⟨hx, hb, hml, hown, hts⟩ (c_X6_ofTrack_B2 l D kA z Bn ra_1 k2 (by first | assumption | omega) (by first | assumption | omega) (by first | assumption | omega) _) (cwV 2 hts h_L_law_25 rfl rfl rfl (by decide +kernel) ⟨Nat.le_of_ble_eq_true rfl, Nat.le_of_ble_eq_true rfl⟩) (fPvB [(q_1, .inl (kA 0, 4, .inl fr2))] (hbe) hK hP hD hS hG hF) rfl rfl hl.1 rfl (lv_room (Nat.le_of_ble_eq_true rfl)) dL_law_910 ⟨(Nat.le_trans (Nat.add_le_add_right (show 110 + ti + 1 ≤ 600086 by omega) _) (Nat.le_of_ble_eq_true rfl)), (Nat.le_trans (Nat.add_le_add_right (show 14000 + 4 * ti + 4 ≤ 7301442 by omega) _) (Nat.le_of_ble_eq_true rfl))⟩) hS (fun q _ h => hF q h) hF (fun r_60 w1 t H locs ht hvm hw hB hz1 hk1 hS => ?_)
      obtain ⟨hP, hD⟩ := chJ [(q_1, .inl (kA 0, 4, .inl fr2))] hP hD hk1 hF ht hB
      try dsimp only at hw
      obtain ⟨rfl, e_59⟩ := hw
      replace e_59 := e_59.symm
      subst e_59
      have hP : va_P D vwCl ([(q_1, .inl (kA 0, 4, .inl fr2))] ++ wB kA Bn) H := hP
      have hD : va_D A ([(q_1, .inl (kA 0, 4, .inl fr2))] ++ wB kA Bn) := hD
      refine lv_if_ne (tgt := 954) hx hb dL_law_913 (by decide) (fun c913 => False.elim (by rw [qz (a := (nn (Bn.1 k2) 1)) (by omega)] at c913; omega)) (fun _ => ?_)
      refine lv_aload_n hx hb dL_law_916 rfl (lv_at hl 14 rfl) ?_
      refine lv_iload hx hb dL_law_917 (lv_at hl 5 rfl) ?_
      refine lv_iconst (v := nI 0) hx hb dL_law_919 (by decide) ?_
      have hF := chF [(q_1, .inl (kA 0, 4, .inl fr2))] hD hS hA
      refine va_calli (va_runV (As := [.int (nI k2), .int (nI 0)]) (rest := []) ⟨hx, hb, hml, hown, hts⟩ (c_X6_ofTrack_B0 l D kA z Bn ra_1 k2 (by first | assumption | omega) (by first | assumption | omega) (by first | assumption | omega) _) (cwV 2 hts h_L_law_7 rfl rfl rfl (by decide +kernel) ⟨Nat.le_of_ble_eq_true rfl, Nat.le_of_ble_eq_true rfl⟩) (fPvB [(q_1, .inl (kA 0, 4, .inl fr2))] (hbe) hK hP hD hS hG hF) rfl rfl hl.1 rfl (lv_room (Nat.le_of_ble_eq_true rfl)) dL_law_920 ⟨(Nat.le_trans (Nat.add_le_add_right (show 110 + ti + 1 ≤ 600086 by omega) _) (Nat.le_of_ble_eq_true rfl)), (Nat.le_trans (Nat.add_le_add_right (show 14000 + 4 * ti + 4 ≤ 7301442 by omega) _) (Nat.le_of_ble_eq_true rfl))⟩) hS (fun q _ h => hF q h) hF (fun r_61 w1 t H locs ht hvm hw hB hz1 hk1 hS => ?_)
      obtain ⟨hP, hD⟩ := chJ [(q_1, .inl (kA 0, 4, .inl fr2))] hP hD hk1 hF ht hB
      try dsimp only at hw
      obtain ⟨rfl, e_60⟩ := hw
      replace e_60 := e_60.symm
      subst e_60
      have hP : va_P D vwCl ([(q_1, .inl (kA 0, 4, .inl fr2))] ++ wB kA Bn) H := hP
      have hD : va_D A ([(q_1, .inl (kA 0, 4, .inl fr2))] ++ wB kA Bn) := hD
      refine lv_iload hx hb dL_law_923 (lv_at hl 8 rfl) ?_
      refine lv_icmp_ne (tgt := 954) hx hb dL_law_925 (by decide) (fun c925 => False.elim (by rw [qeq (a := (nn (Bn.1 k2) 0)) (b := (nn (B.1 k) 0)) (by omega) (by omega)] at c925; omega)) (fun _ => ?_)
      refine lv_aload_n hx hb dL_law_928 rfl (lv_at hl 14 rfl) ?_
      refine lv_iload hx hb dL_law_929 (lv_at hl 5 rfl) ?_
      refine lv_bipush (v := nI 11) hx hb dL_law_931 (by decide) ?_
      have hF := chF [(q_1, .inl (kA 0, 4, .inl fr2))] hD hS hA
      refine va_calli (va_runV (As := [.int (nI k2), .int (nI 11)]) (rest := []) ⟨hx, hb, hml, hown, hts⟩ (c_X6_ofTrack_B11 l D kA z Bn ra_1 k2 (by first | assumption | omega) (by first | assumption | omega) (by first | assumption | omega) _) (cwV 2 hts h_L_law_28 rfl rfl rfl (by decide +kernel) ⟨Nat.le_of_ble_eq_true rfl, Nat.le_of_ble_eq_true rfl⟩) (fPvB [(q_1, .inl (kA 0, 4, .inl fr2))] (hbe) hK hP hD hS hG hF) rfl rfl hl.1 rfl (lv_room (Nat.le_of_ble_eq_true rfl)) dL_law_933 ⟨(Nat.le_trans (Nat.add_le_add_right (show 110 + ti + 1 ≤ 600086 by omega) _) (Nat.le_of_ble_eq_true rfl)), (Nat.le_trans (Nat.add_le_add_right (show 14000 + 4 * ti + 4 ≤ 7301442 by omega) _) (Nat.le_of_ble_eq_true rfl))⟩) hS (fun q _ h => hF q h) hF (fun r_62 w1 t H locs ht hvm hw hB hz1 hk1 hS => ?_)
      obtain ⟨hP, hD⟩ := chJ [(q_1, .inl (kA 0, 4, .inl fr2))] hP hD hk1 hF ht hB
      try dsimp only at hw
      obtain ⟨rfl, e_61⟩ := hw
      have hP : va_P D vwCl ([(q_1, .inl (kA 0, 4, .inl fr2))] ++ wB kA Bn) H := hP
      have hD : va_D A ([(q_1, .inl (kA 0, 4, .inl fr2))] ++ wB kA Bn) := hD
      refine W.eq (g2 := F0 m 936 ls [.int (nI (8 * (plS (B.1 k))))]) (by rw [show r_62 = nI (8 * (plS (B.1 k))) from by rw [e_61, hn5]; exact sumW_8 _ (by omega) (fun j hj => by rw [hBk]; exact (q_8.2.2.2.2 j hj).1)]) ?_
      refine lv_bipush (v := nI 8) hx hb dL_law_936 (by decide) ?_
      refine lv_iload hx hb dL_law_938 (lv_at hl 3 rfl) ?_
      refine lv_imul hx hb dL_law_940 ?_
      rw [pk_mul 8 (plS (B.1 k))]
      refine lv_icmp_ne (tgt := 954) hx hb dL_law_941 (by decide) (fun c941 => False.elim (by rw [qeq (a := (8 * (plS (B.1 k)))) (b := (8 * (plS (B.1 k)))) (by omega) (by omega)] at c941; omega)) (fun _ => ?_)
      refine lv_aload_n hx hb dL_law_944 rfl (lv_at hl 14 rfl) ?_
      refine lv_iconst (v := nI 4) hx hb dL_law_945 (by decide) ?_
      have hF := chF [(q_1, .inl (kA 0, 4, .inl fr2))] hD hS hA
      refine va_calli (va_runV (As := [.int (nI 4)]) (rest := []) ⟨hx, hb, hml, hown, hts⟩ (c_X6_many_B4 l D kA z Bn ra_1 (by first | assumption | omega) (by first | assumption | omega) _) (cwV 1 hts h_L_law_9 rfl rfl rfl (by decide +kernel) ⟨Nat.le_of_ble_eq_true rfl, Nat.le_of_ble_eq_true rfl⟩) (fPvB [(q_1, .inl (kA 0, 4, .inl fr2))] (hbe) hK hP hD hS hG hF) rfl rfl hl.1 rfl (lv_room (Nat.le_of_ble_eq_true rfl)) dL_law_946 ⟨(Nat.le_trans (Nat.add_le_add_right (show 110 + ti + 1 ≤ 600086 by omega) _) (Nat.le_of_ble_eq_true rfl)), (Nat.le_trans (Nat.add_le_add_right (show 14000 + 4 * ti + 4 ≤ 7301442 by omega) _) (Nat.le_of_ble_eq_true rfl))⟩) hS (fun q _ h => hF q h) hF (fun r_63 w1 t H locs ht hvm hw hB hz1 hk1 hS => ?_)
      obtain ⟨hP, hD⟩ := chJ [(q_1, .inl (kA 0, 4, .inl fr2))] hP hD hk1 hF ht hB
      try dsimp only at hw
      obtain ⟨rfl, e_62⟩ := hw
      replace e_62 := e_62.symm
      subst e_62
      have hP : va_P D vwCl ([(q_1, .inl (kA 0, 4, .inl fr2))] ++ wB kA Bn) H := hP
      have hD : va_D A ([(q_1, .inl (kA 0, 4, .inl fr2))] ++ wB kA Bn) := hD
      refine lv_iload hx hb dL_law_949 (lv_at hl 0 rfl) ?_
      refine lv_icmp_eq (tgt := 1067) hx hb dL_law_951 (by decide) (fun _ => ?_) (fun c951 => False.elim (by rw [qeq (a := (shB Bn)) (b := (shB B - (shS (B.1 k2)))) (by omega) (by omega)] at c951; omega))
      exact jn_1067 Bn fr2 (B.2 3) m4 (m5 + 1) (m6 + 0) trivial hbe (hLn.le (by omega)) hfn (by omega) (by omega) (by omega) (by omega) _ _ _ hP hD hS (lv_sub hl [7, 1, 2, 13, 6, 12, 14, 15] rfl)
    ·
      rw [qz (a := (nn (B.1 k) 1)) (by omega)] at c816
      refine lv_goto (tgt := 1067) hx hb dL_law_819 (by decide) ?_
      exact jn_1067 B fro (B.2 3) m4 m5 m6 trivial hbe (hL.le (by omega)) hfro (by omega) (by omega) (by omega) (by omega) _ _ _ hP hD hS (lv_sub hl [4, 10, 11, 12, 2, 9, 13, 14] rfl)
  ·
    rw [qz (a := k_12) (by omega)] at c799
    refine lv_iconst (v := nI 1) hx hb dL_law_802 (by decide) ?_
    refine lv_goto (tgt := 807) hx hb dL_law_803 (by decide) ?_
    refine lv_istore (lv' := [(14, .int (nI 1)), (13, .int (nI k2)), (12, .ref q_1), (11, .int (nI (shB B))), (10, .int (nI (B.2 3))), (9, .int (nI (nn (B.1 k) 0))), (8, .int (nI (nn (B.1 k) 5))), (7, .int (nI k)), (6, .int x6), (5, .int (nI ti)), (4, .int (nI m6)), (3, .int (nI m5)), (2, .int (nI m4)), (1, .ref ra_1), (0, .ref z)]) hx hb dL_law_807 hl (by decide) rfl (fun ls hl => ?_)
    refine lv_aload_n hx hb dL_law_809 rfl (lv_at hl 13 rfl) ?_
    refine lv_iload hx hb dL_law_810 (lv_at hl 7 rfl) ?_
    refine lv_iconst (v := nI 2) hx hb dL_law_812 (by decide) ?_
    have hF := chF [(q_1, .inl (kA 0, 4, .inl fro))] hD hS hA
    refine va_calli (va_runV (As := [.int (nI k), .int (nI 2)]) (rest := []) ⟨hx, hb, hml, hown, hts⟩ (c_X6_ofTrack_B2 l D kA z B ra_1 k (by first | assumption | omega) (by first | assumption | omega) (by first | assumption | omega) _) (cwV 2 hts h_L_law_25 rfl rfl rfl (by decide +kernel) ⟨Nat.le_of_ble_eq_true rfl, Nat.le_of_ble_eq_true rfl⟩) (fPvB [(q_1, .inl (kA 0, 4, .inl fro))] (hbe) hK hP hD hS hG hF) rfl rfl hl.1 rfl (lv_room (Nat.le_of_ble_eq_true rfl)) dL_law_813 ⟨(Nat.le_trans (Nat.add_le_add_right (show 110 + ti + 1 ≤ 600086 by omega) _) (Nat.le_of_ble_eq_true rfl)), (Nat.le_trans (Nat.add_le_add_right (show 14000 + 4 * ti + 4 ≤ 7301442 by omega) _) (Nat.le_of_ble_eq_true rfl))⟩) hS (fun q _ h => hF q h) hF (fun r_64 w1 t H locs ht hvm hw hB hz1 hk1 hS => ?_)
    obtain ⟨hP, hD⟩ := chJ [(q_1, .inl (kA 0, 4, .inl fro))] hP hD hk1 hF ht hB
    try dsimp only at hw
    obtain ⟨rfl, e_63⟩ := hw
    replace e_63 := e_63.symm
    subst e_63
    have hP : va_P D vwCl ([(q_1, .inl (kA 0, 4, .inl fro))] ++ wB kA B) H := hP
    have hD : va_D A ([(q_1, .inl (kA 0, 4, .inl fro))] ++ wB kA B) := hD
    refine lv_if_ne (tgt := 822) hx hb dL_law_816 (by decide) (fun c816 => ?_) (fun c816 => ?_)
    ·
      rw [qz (a := (nn (B.1 k) 1)) (by omega)] at c816
      refine lv_iload hx hb dL_law_822 (lv_at hl 0 rfl) ?_
      refine lv_if_eq (tgt := 837) hx hb dL_law_824 (by decide) (fun c824 => absurd c824 (by decide)) (fun _ => ?_)
      refine lv_aload_n hx hb dL_law_827 rfl (lv_at hl 13 rfl) ?_
      refine lv_iload hx hb dL_law_828 (lv_at hl 7 rfl) ?_
      refine lv_iconst (v := nI 3) hx hb dL_law_830 (by decide) ?_
      have hF := chF [(q_1, .inl (kA 0, 4, .inl fro))] hD hS hA
      refine va_calli (va_runV (As := [.int (nI k), .int (nI 3)]) (rest := []) ⟨hx, hb, hml, hown, hts⟩ (c_X6_ofTrack_B3 l D kA z B ra_1 k (by first | assumption | omega) (by first | assumption | omega) (by first | assumption | omega) _) (cwV 2 hts h_L_law_29 rfl rfl rfl (by decide +kernel) ⟨Nat.le_of_ble_eq_true rfl, Nat.le_of_ble_eq_true rfl⟩) (fPvB [(q_1, .inl (kA 0, 4, .inl fro))] (hbe) hK hP hD hS hG hF) rfl rfl hl.1 rfl (lv_room (Nat.le_of_ble_eq_true rfl)) dL_law_831 ⟨(Nat.le_trans (Nat.add_le_add_right (show 110 + ti + 1 ≤ 600086 by omega) _) (Nat.le_of_ble_eq_true rfl)), (Nat.le_trans (Nat.add_le_add_right (show 14000 + 4 * ti + 4 ≤ 7301442 by omega) _) (Nat.le_of_ble_eq_true rfl))⟩) hS (fun q _ h => hF q h) hF (fun r_65 w1 t H locs ht hvm hw hB hz1 hk1 hS => ?_)
      obtain ⟨hP, hD⟩ := chJ [(q_1, .inl (kA 0, 4, .inl fro))] hP hD hk1 hF ht hB
      try dsimp only at hw
      obtain ⟨rfl, e_64⟩ := hw
      replace e_64 := e_64.symm
      subst e_64
      have hP : va_P D vwCl ([(q_1, .inl (kA 0, 4, .inl fro))] ++ wB kA B) H := hP
      have hD : va_D A ([(q_1, .inl (kA 0, 4, .inl fro))] ++ wB kA B) := hD
      refine lv_goto (tgt := 843) hx hb dL_law_834 (by decide) ?_
      have hvl4 := iT.vl4
      have hpl4 := iT.own.2.2.2.1
      refine lv_istore (lv' := [(15, .int (nI (nn (B.1 k) 6))), (14, .int (nI 1)), (13, .int (nI k2)), (12, .ref q_1), (11, .int (nI (shB B))), (10, .int (nI (B.2 3))), (9, .int (nI (nn (B.1 k) 0))), (8, .int (nI (nn (B.1 k) 5))), (7, .int (nI k)), (6, .int x6), (5, .int (nI ti)), (4, .int (nI m6)), (3, .int (nI m5)), (2, .int (nI m4)), (1, .ref ra_1), (0, .ref z)]) hx hb dL_law_843 hl (by decide) rfl (fun ls hl => ?_)
      refine lv_aload hx hb dL_law_845 (lv_at hl 3 rfl) ?_
      refine lv_iload hx hb dL_law_847 (lv_at hl 2 rfl) ?_
      refine lv_iload hx hb dL_law_849 (lv_at hl 0 rfl) ?_
      refine va_iast hx hb hK hP hD hS 0 0 rfl rfl (vp_in_nI (n := k2) (by omega) (by decide)) dL_law_851 (fun H locs hP hD hS => ?_)
      rw [nI_clamp (n := k2) (by omega)] at hP hD
      have hP : va_P D vwCl ([(q_1, .inl (kA 0, 4, .inl (upd fro k2 (nI (nn (B.1 k) 6)))))] ++ wB kA B) H := hP
      have hD : va_D A ([(q_1, .inl (kA 0, 4, .inl (upd fro k2 (nI (nn (B.1 k) 6)))))] ++ wB kA B) := hD
      refine lv_iload_n hx hb dL_law_852 rfl (lv_at hl 12 rfl) ?_
      refine lv_iload hx hb dL_law_853 (lv_at hl 1 rfl) ?_
      refine lv_if_eq (tgt := 862) hx hb dL_law_855 (by decide) (fun c855 => absurd c855 (by decide)) (fun _ => ?_)
      refine lv_iconst (v := nI 0) hx hb dL_law_858 (by decide) ?_
      refine lv_goto (tgt := 863) hx hb dL_law_859 (by decide) ?_
      refine lv_iadd hx hb dL_law_863 ?_
      rw [nI_add m5 0]
      refine lv_istore_n (lv' := [(3, .int (nI (m5 + 0))), (15, .int (nI (nn (B.1 k) 6))), (14, .int (nI 1)), (13, .int (nI k2)), (12, .ref q_1), (11, .int (nI (shB B))), (10, .int (nI (B.2 3))), (9, .int (nI (nn (B.1 k) 0))), (8, .int (nI (nn (B.1 k) 5))), (7, .int (nI k)), (6, .int x6), (5, .int (nI ti)), (4, .int (nI m6)), (2, .int (nI m4)), (1, .ref ra_1), (0, .ref z)]) hx hb dL_law_864 rfl hl (by decide) rfl (fun ls hl => ?_)
      refine lv_iload hx hb dL_law_865 (lv_at hl 12 rfl) ?_
      refine lv_iload hx hb dL_law_867 (lv_at hl 2 rfl) ?_
      refine lv_if_eq (tgt := 876) hx hb dL_law_869 (by decide) (fun c869 => absurd c869 (by decide)) (fun _ => ?_)
      refine lv_iconst (v := nI 1) hx hb dL_law_872 (by decide) ?_
      refine lv_goto (tgt := 877) hx hb dL_law_873 (by decide) ?_
      refine lv_iadd hx hb dL_law_877 ?_
      rw [nI_add m6 1]
      refine lv_istore (lv' := [(4, .int (nI (m6 + 1))), (3, .int (nI (m5 + 0))), (15, .int (nI (nn (B.1 k) 6))), (14, .int (nI 1)), (13, .int (nI k2)), (12, .ref q_1), (11, .int (nI (shB B))), (10, .int (nI (B.2 3))), (9, .int (nI (nn (B.1 k) 0))), (8, .int (nI (nn (B.1 k) 5))), (7, .int (nI k)), (6, .int x6), (5, .int (nI ti)), (2, .int (nI m4)), (1, .ref ra_1), (0, .ref z)]) hx hb dL_law_878 hl (by decide) rfl (fun ls hl => ?_)
      refine lv_iload hx hb dL_law_880 (lv_at hl 6 rfl) ?_
      refine lv_aload_n hx hb dL_law_882 rfl (lv_at hl 14 rfl) ?_
      refine lv_iload hx hb dL_law_883 (lv_at hl 4 rfl) ?_
      have hF := chF [(q_1, .inl (kA 0, 4, .inl (upd fro k2 (nI (nn (B.1 k) 6)))))] hD hS hA
      refine va_calli (va_runS (As := [.ref ra_1, .int (nI k2)]) (rest := [.int (nI (shB B))]) ⟨hx, hb, hml, hown, hts⟩ (c_L_gone l D kA z B ra_1 k2 (by first | assumption | omega) (by first | assumption | omega) (by first | assumption | omega) _) (va_cwS 2 hts h_L_law_23 rfl rfl rfl (by decide +kernel) ⟨Nat.le_of_ble_eq_true rfl, Nat.le_of_ble_eq_true rfl⟩) (fPsB [(q_1, .inl (kA 0, 4, .inl (upd fro k2 (nI (nn (B.1 k) 6)))))] hK hP hD hS hG hF) rfl rfl hl.1 rfl (lv_room (Nat.le_of_ble_eq_true rfl)) dL_law_885 ⟨(Nat.le_trans (Nat.add_le_add_right (show 110 + ti + 1 ≤ 600086 by omega) _) (Nat.le_of_ble_eq_true rfl)), (Nat.le_trans (Nat.add_le_add_right (show 14000 + 4 * ti + 4 ≤ 7301442 by omega) _) (Nat.le_of_ble_eq_true rfl))⟩) hS (fun q _ h => hF q h) hF (fun r_66 w1 t H locs ht hvm hw hB hz1 hk1 hS => ?_)
      obtain ⟨hP, hD⟩ := chJ [(q_1, .inl (kA 0, 4, .inl (upd fro k2 (nI (nn (B.1 k) 6)))))] hP hD hk1 hF ht hB
      try dsimp only at hw
      obtain ⟨rfl, e_65⟩ := hw
      replace e_65 := e_65.symm
      subst e_65
      have hP : va_P D vwCl ([(q_1, .inl (kA 0, 4, .inl (upd fro k2 (nI (nn (B.1 k) 6)))))] ++ wB kA B) H := hP
      have hD : va_D A ([(q_1, .inl (kA 0, 4, .inl (upd fro k2 (nI (nn (B.1 k) 6)))))] ++ wB kA B) := hD
      refine lv_isub hx hb dL_law_888 ?_
      rw [pk_sub (a := (shB B)) (b := (shS (B.1 k2))) (by omega)]
      refine lv_istore (lv' := [(11, .int (nI (shB B - (shS (B.1 k2))))), (4, .int (nI (m6 + 1))), (3, .int (nI (m5 + 0))), (15, .int (nI (nn (B.1 k) 6))), (14, .int (nI 1)), (13, .int (nI k2)), (12, .ref q_1), (10, .int (nI (B.2 3))), (9, .int (nI (nn (B.1 k) 0))), (8, .int (nI (nn (B.1 k) 5))), (7, .int (nI k)), (6, .int x6), (5, .int (nI ti)), (2, .int (nI m4)), (1, .ref ra_1), (0, .ref z)]) hx hb dL_law_889 hl (by decide) rfl (fun ls hl => ?_)
      refine lv_aload_n hx hb dL_law_891 rfl (lv_at hl 14 rfl) ?_
      refine lv_iload hx hb dL_law_892 (lv_at hl 10 rfl) ?_
      refine lv_iload hx hb dL_law_894 (lv_at hl 5 rfl) ?_
      refine lv_iload hx hb dL_law_896 (lv_at hl 4 rfl) ?_
      have hF := chF [(q_1, .inl (kA 0, 4, .inl (upd fro k2 (nI (nn (B.1 k) 6)))))] hD hS hA
      refine va_calli (va_runV (As := [.int (nI k), .int (nI k2), .int (nI 1)]) (rest := []) ⟨hx, hb, hml, hown, hts⟩ (c_X6_copy_rB l D kA z B ra_1 k k2 (by first | assumption | omega) (by first | assumption | omega) (by first | assumption | omega) (by first | assumption | omega) (by first | assumption | omega) _) (cwV 3 hts h_L_law_30 rfl rfl rfl (by decide +kernel) ⟨Nat.le_of_ble_eq_true rfl, Nat.le_of_ble_eq_true rfl⟩) (fPvB [(q_1, .inl (kA 0, 4, .inl (upd fro k2 (nI (nn (B.1 k) 6)))))] (hbe) hK hP hD hS hG hF) rfl rfl hl.1 rfl (lv_room (Nat.le_of_ble_eq_true rfl)) dL_law_898 ⟨(Nat.le_trans (Nat.add_le_add_right (show 110 + ti + 1 ≤ 600086 by omega) _) (Nat.le_of_ble_eq_true rfl)), (Nat.le_trans (Nat.add_le_add_right (show 14000 + 4 * ti + 4 ≤ 7301442 by omega) _) (Nat.le_of_ble_eq_true rfl))⟩) hS (fun q _ h => hF q h) hF (fun r_67 w1 t H locs ht hvm hw hB hz1 hk1 hS => ?_)
      obtain ⟨hP, hD⟩ := chJ [(q_1, .inl (kA 0, 4, .inl (upd fro k2 (nI (nn (B.1 k) 6)))))] hP hD hk1 hF ht hB
      try dsimp only at hw
      obtain ⟨S_8, rfl, e_66, q_9, h_2⟩ := hw
      replace e_66 := e_66.symm
      subst e_66
      have hP : va_P D vwCl ([(q_1, .inl (kA 0, 4, .inl (upd fro k2 (nI (nn (B.1 k) 6)))))] ++ wB kA (uP B.1 k2 S_8, uP B.2 6 (B.2 6 + 1))) H := hP
      have hD : va_D A ([(q_1, .inl (kA 0, 4, .inl (upd fro k2 (nI (nn (B.1 k) 6)))))] ++ wB kA (uP B.1 k2 S_8, uP B.2 6 (B.2 6 + 1))) := hD
      obtain ⟨Bn, hBn⟩ : ∃ X : BS, X = (uP B.1 k2 S_8, uP B.2 6 (B.2 6 + 1)) := ⟨_, rfl⟩
      rw [← hBn] at hP hD
      have hBk : Bn.1 k2 = S_8 := (congrArg (fun X : BS => X.1 k2) hBn).trans (uP_at _ _ _)
      have hM0 : Bn.2 0 = B.2 0 := (congrArg (fun X : BS => X.2 0) hBn).trans (uP_ne (α := Nat) B.2 (k := 6) (j := 0) (B.2 6 + 1) (by decide))
      have hM2 : Bn.2 2 = B.2 2 := (congrArg (fun X : BS => X.2 2) hBn).trans (uP_ne (α := Nat) B.2 (k := 6) (j := 2) (B.2 6 + 1) (by decide))
      have hM3 : Bn.2 3 = B.2 3 := (congrArg (fun X : BS => X.2 3) hBn).trans (uP_ne (α := Nat) B.2 (k := 6) (j := 3) (B.2 6 + 1) (by decide))
      have hM4 : Bn.2 4 = B.2 4 := (congrArg (fun X : BS => X.2 4) hBn).trans (uP_ne (α := Nat) B.2 (k := 6) (j := 4) (B.2 6 + 1) (by decide))
      have hM5 : Bn.2 5 = B.2 5 := (congrArg (fun X : BS => X.2 5) hBn).trans (uP_ne (α := Nat) B.2 (k := 6) (j := 5) (B.2 6 + 1) (by decide))
      have hM6 : Bn.2 6 = B.2 6 + 1 := (congrArg (fun X : BS => X.2 6) hBn).trans (uP_at (α := Nat) B.2 6 (B.2 6 + 1))
      have hbe : Bn.2 0 = ra_1 := hM0.trans hbe
      have hLn : LI Bn (ti + 5) := by rw [hBn]; exact LI_C hL hk24 q_9.1 (by decide) h_2
      have hI := hLn.1
      have hsp1 := hI.2.2.1
      have hn5 : nn (Bn.1 k2) 5 = _ := (congrArg (fun X => nn X 5) hBk).trans q_9.2.2.2.1
      have hz1 : nn (Bn.1 k2) 1 = 0 := (congrArg (fun X => nn X 1) hBk).trans q_9.2.2.1
      have hz0 : nn (Bn.1 k2) 0 = nn (B.1 k) 0 := (congrArg (fun X => nn X 0) hBk).trans q_9.2.1
      have hup : shB Bn + shS (B.1 k2) = shB B + shS S_8 := by rw [hBn]; exact shB_up hk24 S_8 _
      have hcp := cp_sh q_9
      have hBn4 := shB_le hI
      obtain ⟨fr2, hfr2⟩ : ∃ X : Nat → Int32, X = upd fro k2 (nI (nn (B.1 k) 6)) := ⟨_, rfl⟩
      rw [← hfr2] at hP hD
      have hf2k : fr2 k2 = nI (nn (B.1 k) 6) := by rw [hfr2]; exact upd_at _ _ _
      have hfn : ∀ q, q < 4 → fr2 q = nI (nn (Bn.1 q) 5) := by rw [hfr2, hBn]; exact fr_up hfro q_9.2.2.2.1
      have hP : va_P D vwCl ([(q_1, .inl (kA 0, 4, .inl fr2))] ++ wB kA Bn) H := hP
      have hD : va_D A ([(q_1, .inl (kA 0, 4, .inl fr2))] ++ wB kA Bn) := hD
      refine lv_iload hx hb dL_law_901 (lv_at hl 3 rfl) ?_
      refine lv_icmp_ne (tgt := 954) hx hb dL_law_903 (by decide) (fun c903 => False.elim (by rw [qeq (a := (nn (B.1 k) 6)) (b := (nn (B.1 k) 6)) (by omega) (by omega)] at c903; omega)) (fun _ => ?_)
      refine lv_aload_n hx hb dL_law_906 rfl (lv_at hl 14 rfl) ?_
      refine lv_iload hx hb dL_law_907 (lv_at hl 5 rfl) ?_
      refine lv_iconst (v := nI 2) hx hb dL_law_909 (by decide) ?_
      have hF := chF [(q_1, .inl (kA 0, 4, .inl fr2))] hD hS hA
      refine va_calli (va_runV (As := [.int (nI k2), .int (nI 2)]) (rest := []) ⟨hx, hb, hml, hown, hts⟩ (c_X6_ofTrack_B2 l D kA z Bn ra_1 k2 (by first | assumption | omega) (by first | assumption | omega) (by first | assumption | omega) _) (cwV 2 hts h_L_law_25 rfl rfl rfl (by decide +kernel) ⟨Nat.le_of_ble_eq_true rfl, Nat.le_of_ble_eq_true rfl⟩) (fPvB [(q_1, .inl (kA 0, 4, .inl fr2))] (hbe) hK hP hD hS hG hF) rfl rfl hl.1 rfl (lv_room (Nat.le_of_ble_eq_true rfl)) dL_law_910 ⟨(Nat.le_trans (Nat.add_le_add_right (show 110 + ti + 1 ≤ 600086 by omega) _) (Nat.le_of_ble_eq_true rfl)), (Nat.le_trans (Nat.add_le_add_right (show 14000 + 4 * ti + 4 ≤ 7301442 by omega) _) (Nat.le_of_ble_eq_true rfl))⟩) hS (fun q _ h => hF q h) hF (fun r_68 w1 t H locs ht hvm hw hB hz1 hk1 hS => ?_)
      obtain ⟨hP, hD⟩ := chJ [(q_1, .inl (kA 0, 4, .inl fr2))] hP hD hk1 hF ht hB
      try dsimp only at hw
      obtain ⟨rfl, e_67⟩ := hw
      replace e_67 := e_67.symm
      subst e_67
      have hP : va_P D vwCl ([(q_1, .inl (kA 0, 4, .inl fr2))] ++ wB kA Bn) H := hP
      have hD : va_D A ([(q_1, .inl (kA 0, 4, .inl fr2))] ++ wB kA Bn) := hD
      refine lv_if_ne (tgt := 954) hx hb dL_law_913 (by decide) (fun c913 => False.elim (by rw [qz (a := (nn (Bn.1 k2) 1)) (by omega)] at c913; omega)) (fun _ => ?_)
      refine lv_aload_n hx hb dL_law_916 rfl (lv_at hl 14 rfl) ?_
      refine lv_iload hx hb dL_law_917 (lv_at hl 5 rfl) ?_
      refine lv_iconst (v := nI 0) hx hb dL_law_919 (by decide) ?_
      have hF := chF [(q_1, .inl (kA 0, 4, .inl fr2))] hD hS hA
      refine va_calli (va_runV (As := [.int (nI k2), .int (nI 0)]) (rest := []) ⟨hx, hb, hml, hown, hts⟩ (c_X6_ofTrack_B0 l D kA z Bn ra_1 k2 (by first | assumption | omega) (by first | assumption | omega) (by first | assumption | omega) _) (cwV 2 hts h_L_law_7 rfl rfl rfl (by decide +kernel) ⟨Nat.le_of_ble_eq_true rfl, Nat.le_of_ble_eq_true rfl⟩) (fPvB [(q_1, .inl (kA 0, 4, .inl fr2))] (hbe) hK hP hD hS hG hF) rfl rfl hl.1 rfl (lv_room (Nat.le_of_ble_eq_true rfl)) dL_law_920 ⟨(Nat.le_trans (Nat.add_le_add_right (show 110 + ti + 1 ≤ 600086 by omega) _) (Nat.le_of_ble_eq_true rfl)), (Nat.le_trans (Nat.add_le_add_right (show 14000 + 4 * ti + 4 ≤ 7301442 by omega) _) (Nat.le_of_ble_eq_true rfl))⟩) hS (fun q _ h => hF q h) hF (fun r_69 w1 t H locs ht hvm hw hB hz1 hk1 hS => ?_)
      obtain ⟨hP, hD⟩ := chJ [(q_1, .inl (kA 0, 4, .inl fr2))] hP hD hk1 hF ht hB
      try dsimp only at hw
      obtain ⟨rfl, e_68⟩ := hw
      replace e_68 := e_68.symm
      subst e_68
      have hP : va_P D vwCl ([(q_1, .inl (kA 0, 4, .inl fr2))] ++ wB kA Bn) H := hP
      have hD : va_D A ([(q_1, .inl (kA 0, 4, .inl fr2))] ++ wB kA Bn) := hD
      refine lv_iload hx hb dL_law_923 (lv_at hl 8 rfl) ?_
      refine lv_icmp_ne (tgt := 954) hx hb dL_law_925 (by decide) (fun c925 => False.elim (by rw [qeq (a := (nn (Bn.1 k2) 0)) (b := (nn (B.1 k) 0)) (by omega) (by omega)] at c925; omega)) (fun _ => ?_)
      refine lv_aload_n hx hb dL_law_928 rfl (lv_at hl 14 rfl) ?_
      refine lv_iload hx hb dL_law_929 (lv_at hl 5 rfl) ?_
      refine lv_bipush (v := nI 11) hx hb dL_law_931 (by decide) ?_
      have hF := chF [(q_1, .inl (kA 0, 4, .inl fr2))] hD hS hA
      refine va_calli (va_runV (As := [.int (nI k2), .int (nI 11)]) (rest := []) ⟨hx, hb, hml, hown, hts⟩ (c_X6_ofTrack_B11 l D kA z Bn ra_1 k2 (by first | assumption | omega) (by first | assumption | omega) (by first | assumption | omega) _) (cwV 2 hts h_L_law_28 rfl rfl rfl (by decide +kernel) ⟨Nat.le_of_ble_eq_true rfl, Nat.le_of_ble_eq_true rfl⟩) (fPvB [(q_1, .inl (kA 0, 4, .inl fr2))] (hbe) hK hP hD hS hG hF) rfl rfl hl.1 rfl (lv_room (Nat.le_of_ble_eq_true rfl)) dL_law_933 ⟨(Nat.le_trans (Nat.add_le_add_right (show 110 + ti + 1 ≤ 600086 by omega) _) (Nat.le_of_ble_eq_true rfl)), (Nat.le_trans (Nat.add_le_add_right (show 14000 + 4 * ti + 4 ≤ 7301442 by omega) _) (Nat.le_of_ble_eq_true rfl))⟩) hS (fun q _ h => hF q h) hF (fun r_70 w1 t H locs ht hvm hw hB hz1 hk1 hS => ?_)
      obtain ⟨hP, hD⟩ := chJ [(q_1, .inl (kA 0, 4, .inl fr2))] hP hD hk1 hF ht hB
      try dsimp only at hw
      obtain ⟨rfl, e_69⟩ := hw
      have hP : va_P D vwCl ([(q_1, .inl (kA 0, 4, .inl fr2))] ++ wB kA Bn) H := hP
      have hD : va_D A ([(q_1, .inl (kA 0, 4, .inl fr2))] ++ wB kA Bn) := hD
      refine W.eq (g2 := F0 m 936 ls [.int (nI (8 * (nn (B.1 k) 6)))]) (by rw [show r_70 = nI (8 * (nn (B.1 k) 6)) from by rw [e_69, hn5]; exact sumW_8 _ (by omega) (fun j hj => by rw [hBk]; exact (q_9.2.2.2.2 j hj).1)]) ?_
      refine lv_bipush (v := nI 8) hx hb dL_law_936 (by decide) ?_
      refine lv_iload hx hb dL_law_938 (lv_at hl 3 rfl) ?_
      refine lv_imul hx hb dL_law_940 ?_
      rw [pk_mul 8 (nn (B.1 k) 6)]
      refine lv_icmp_ne (tgt := 954) hx hb dL_law_941 (by decide) (fun c941 => False.elim (by rw [qeq (a := (8 * (nn (B.1 k) 6))) (b := (8 * (nn (B.1 k) 6))) (by omega) (by omega)] at c941; omega)) (fun _ => ?_)
      refine lv_aload_n hx hb dL_law_944 rfl (lv_at hl 14 rfl) ?_
      refine lv_iconst (v := nI 4) hx hb dL_law_945 (by decide) ?_
      have hF := chF [(q_1, .inl (kA 0, 4, .inl fr2))] hD hS hA
      refine va_calli (va_runV (As := [.int (nI 4)]) (rest := []) ⟨hx, hb, hml, hown, hts⟩ (c_X6_many_B4 l D kA z Bn ra_1 (by first | assumption | omega) (by first | assumption | omega) _) (cwV 1 hts h_L_law_9 rfl rfl rfl (by decide +kernel) ⟨Nat.le_of_ble_eq_true rfl, Nat.le_of_ble_eq_true rfl⟩) (fPvB [(q_1, .inl (kA 0, 4, .inl fr2))] (hbe) hK hP hD hS hG hF) rfl rfl hl.1 rfl (lv_room (Nat.le_of_ble_eq_true rfl)) dL_law_946 ⟨(Nat.le_trans (Nat.add_le_add_right (show 110 + ti + 1 ≤ 600086 by omega) _) (Nat.le_of_ble_eq_true rfl)), (Nat.le_trans (Nat.add_le_add_right (show 14000 + 4 * ti + 4 ≤ 7301442 by omega) _) (Nat.le_of_ble_eq_true rfl))⟩) hS (fun q _ h => hF q h) hF (fun r_71 w1 t H locs ht hvm hw hB hz1 hk1 hS => ?_)
      obtain ⟨hP, hD⟩ := chJ [(q_1, .inl (kA 0, 4, .inl fr2))] hP hD hk1 hF ht hB
      try dsimp only at hw
      obtain ⟨rfl, e_70⟩ := hw
      replace e_70 := e_70.symm
      subst e_70
      have hP : va_P D vwCl ([(q_1, .inl (kA 0, 4, .inl fr2))] ++ wB kA Bn) H := hP
      have hD : va_D A ([(q_1, .inl (kA 0, 4, .inl fr2))] ++ wB kA Bn) := hD
      refine lv_iload hx hb dL_law_949 (lv_at hl 0 rfl) ?_
      refine lv_icmp_eq (tgt := 1067) hx hb dL_law_951 (by decide) (fun _ => ?_) (fun c951 => False.elim (by rw [qeq (a := (shB Bn)) (b := (shB B - (shS (B.1 k2)))) (by omega) (by omega)] at c951; omega))
      exact jn_1067 Bn fr2 (B.2 3) m4 (m5 + 0) (m6 + 1) trivial hbe (hLn.le (by omega)) hfn (by omega) (by omega) (by omega) (by omega) _ _ _ hP hD hS (lv_sub hl [7, 1, 2, 13, 6, 12, 14, 15] rfl)
    ·
      rw [qz (a := (nn (B.1 k) 1)) (by omega)] at c816
      refine lv_goto (tgt := 1067) hx hb dL_law_819 (by decide) ?_
      exact jn_1067 B fro (B.2 3) m4 m5 m6 trivial hbe (hL.le (by omega)) hfro (by omega) (by omega) (by omega) (by omega) _ _ _ hP hD hS (lv_sub hl [4, 10, 11, 12, 2, 9, 13, 14] rfl)
set_option maxHeartbeats 4000000 in
set_option maxRecDepth 100000 in
theorem cL_9 (l : Launch) (D : va_G) (kA : Nat → ClassId) (z : Nat) (hfl : l.stackTraces = false) {p : Program} {e : Env} {s : State} {m : MethodId} {args : Array Value} {below : List Frame} {meth : Method} {c : Code} {A : Nat → Prop} {ls0 : Array Slot} (hE : fE p s m args meth c D (tyL kA) z wq_L_law RL cL_law 16 (some .boolean) [.ref z] [] A ls0) (hargs : args = #[Value.ref z]) (hA2 : ∀ q : Nat, A q → s.heap.size ≤ q) (ti : Nat) (ra_1 : Nat) (q_1 : Nat) (B : BS) (m4 : Nat) (m5 : Nat) (m6 : Nat) (k : Nat) (x6 : Int32) (fro : Nat → Int32) (hti4 : ti < 40) (hbe : B.2 0 = ra_1) (hL : LI B (ti + 4)) (hm4 : m4 = B.2 4) (hm5 : m5 = B.2 5) (hm6 : m6 = B.2 6) (hk : k < 4) (hfro : ∀ q, q < 4 → fro q = nI (nn (B.1 q) 5)) (jn_1067 : ∀ (B9 : BS) (fr9 : Nat → Int32) (d9 : Nat) (m49 : Nat) (m59 : Nat) (m69 : Nat) (_ : True), (B9.2 0 = ra_1) → (LI B9 (ti + 5)) → (∀ q, q < 4 → fr9 q = nI (nn (B9.1 q) 5)) → (d9 = B9.2 3) → (m49 = B9.2 4) → (m59 = B9.2 5) → (m69 = B9.2 6) → ∀ (H : Heap) (locs : List Loc) (ls : Array Slot), va_P D vwCl ([(q_1, .inl (kA 0, 4, .inl fr9))] ++ wB kA B9) H → va_D A ([(q_1, .inl (kA 0, 4, .inl fr9))] ++ wB kA B9) → va_S A s.heap H locs → lv_has ls 16 [(10, .int (nI d9)), (4, .int (nI m69)), (3, .int (nI m59)), (2, .int (nI m49)), (12, .ref q_1), (5, .int (nI ti)), (1, .ref ra_1), (0, .ref z)] → W p l e room_1 s m args below meth c H locs (110 + ti + 1) (14000 + 4 * ti + 4) (lw_Z below args s) (F0 m 1067 ls [])) (H : Heap) (locs : List Loc) (ls : Array Slot) (hP : va_P D vwCl ([(q_1, .inl (kA 0, 4, .inl fro))] ++ wB kA B) H) (hD : va_D A ([(q_1, .inl (kA 0, 4, .inl fro))] ++ wB kA B)) (hS : va_S A s.heap H locs) (hl : lv_has ls 16 [(12, .ref q_1), (11, .int (nI (shB B))), (10, .int (nI (B.2 3))), (9, .int (nI (nn (B.1 k) 0))), (8, .int (nI (nn (B.1 k) 5))), (7, .int (nI k)), (6, .int x6), (5, .int (nI ti)), (4, .int (nI m6)), (3, .int (nI m5)), (2, .int (nI m4)), (1, .ref ra_1), (0, .ref z)]) : W p l e room_1 s m args below meth c H locs (110 + ti + 1) (14000 + 4 * ti + 4) (lw_Z below args s) (F0 m 956 ls []) := by
  obtain ⟨hx, hb, hr, hml, hts, hown, hlocks, hA, -, -, hK, -, hG, -⟩ := hE
  have hH : s.heap = s.heap := rfl
  have hI := hL.1
  have hl42 := hL.2.2.1
  have hl52 := hL.2.2.2.1
  have hl62 := hL.2.2.2.2
  have iT := hI.1 k hk
  have hn4 := iT.2.2.2.1
  have hn1 := iT.2.1
  have hc2 := iT.1
  have h34 := hL.2.1 k hk
  have hsk := shS_le (B := B) hk
  have hB4 := shB_le hI
  have hsp0 := hI.2.2.1
  have hdw0 := hI.2.2.2
  refine lv_iload hx hb dL_law_956 (lv_at hl 4 rfl) ?_
  refine lv_if_ne (tgt := 964) hx hb dL_law_958 (by decide) (fun c958 => ?_) (fun c958 => ?_)
  ·
    rw [qz (a := (nn (B.1 k) 5)) (by omega)] at c958
    refine lv_aload_n hx hb dL_law_964 rfl (lv_at hl 11 rfl) ?_
    refine lv_iload hx hb dL_law_965 (lv_at hl 5 rfl) ?_
    refine lv_bipush (v := nI 10) hx hb dL_law_967 (by decide) ?_
    have hF := chF [(q_1, .inl (kA 0, 4, .inl fro))] hD hS hA
    refine va_calli (va_runV (As := [.int (nI k), .int (nI 10)]) (rest := []) ⟨hx, hb, hml, hown, hts⟩ (c_X6_ofTrack_B10 l D kA z B ra_1 k (by first | assumption | omega) (by first | assumption | omega) (by first | assumption | omega) _) (cwV 2 hts h_L_law_31 rfl rfl rfl (by decide +kernel) ⟨Nat.le_of_ble_eq_true rfl, Nat.le_of_ble_eq_true rfl⟩) (fPvB [(q_1, .inl (kA 0, 4, .inl fro))] (hbe) hK hP hD hS hG hF) rfl rfl hl.1 rfl (lv_room (Nat.le_of_ble_eq_true rfl)) dL_law_969 ⟨(Nat.le_trans (Nat.add_le_add_right (show 110 + ti + 1 ≤ 600086 by omega) _) (Nat.le_of_ble_eq_true rfl)), (Nat.le_trans (Nat.add_le_add_right (show 14000 + 4 * ti + 4 ≤ 7301442 by omega) _) (Nat.le_of_ble_eq_true rfl))⟩) hS (fun q _ h => hF q h) hF (fun r_72 w1 t H locs ht hvm hw hB hz1 hk1 hS => ?_)
    obtain ⟨hP, hD⟩ := chJ [(q_1, .inl (kA 0, 4, .inl fro))] hP hD hk1 hF ht hB
    try dsimp only at hw
    obtain ⟨rfl, e_71⟩ := hw
    replace e_71 := e_71.symm
    subst e_71
    have hP : va_P D vwCl ([(q_1, .inl (kA 0, 4, .inl fro))] ++ wB kA B) H := hP
    have hD : va_D A ([(q_1, .inl (kA 0, 4, .inl fro))] ++ wB kA B) := hD
    refine lv_istore (lv' := [(13, .int (nI (nn (B.1 k) 3))), (12, .ref q_1), (11, .int (nI (shB B))), (10, .int (nI (B.2 3))), (9, .int (nI (nn (B.1 k) 0))), (8, .int (nI (nn (B.1 k) 5))), (7, .int (nI k)), (6, .int x6), (5, .int (nI ti)), (4, .int (nI m6)), (3, .int (nI m5)), (2, .int (nI m4)), (1, .ref ra_1), (0, .ref z)]) hx hb dL_law_972 hl (by decide) rfl (fun ls hl => ?_)
    refine lv_aload_n hx hb dL_law_974 rfl (lv_at hl 12 rfl) ?_
    refine lv_iload hx hb dL_law_975 (lv_at hl 6 rfl) ?_
    refine lv_iconst (v := nI 2) hx hb dL_law_977 (by decide) ?_
    have hF := chF [(q_1, .inl (kA 0, 4, .inl fro))] hD hS hA
    refine va_calli (va_runV (As := [.int (nI k), .int (nI 2)]) (rest := []) ⟨hx, hb, hml, hown, hts⟩ (c_X6_ofTrack_B2 l D kA z B ra_1 k (by first | assumption | omega) (by first | assumption | omega) (by first | assumption | omega) _) (cwV 2 hts h_L_law_25 rfl rfl rfl (by decide +kernel) ⟨Nat.le_of_ble_eq_true rfl, Nat.le_of_ble_eq_true rfl⟩) (fPvB [(q_1, .inl (kA 0, 4, .inl fro))] (hbe) hK hP hD hS hG hF) rfl rfl hl.1 rfl (lv_room (Nat.le_of_ble_eq_true rfl)) dL_law_978 ⟨(Nat.le_trans (Nat.add_le_add_right (show 110 + ti + 1 ≤ 600086 by omega) _) (Nat.le_of_ble_eq_true rfl)), (Nat.le_trans (Nat.add_le_add_right (show 14000 + 4 * ti + 4 ≤ 7301442 by omega) _) (Nat.le_of_ble_eq_true rfl))⟩) hS (fun q _ h => hF q h) hF (fun r_73 w1 t H locs ht hvm hw hB hz1 hk1 hS => ?_)
    obtain ⟨hP, hD⟩ := chJ [(q_1, .inl (kA 0, 4, .inl fro))] hP hD hk1 hF ht hB
    try dsimp only at hw
    obtain ⟨rfl, e_72⟩ := hw
    replace e_72 := e_72.symm
    subst e_72
    have hP : va_P D vwCl ([(q_1, .inl (kA 0, 4, .inl fro))] ++ wB kA B) H := hP
    have hD : va_D A ([(q_1, .inl (kA 0, 4, .inl fro))] ++ wB kA B) := hD
    refine lv_istore (lv' := [(14, .int (nI (nn (B.1 k) 1))), (13, .int (nI (nn (B.1 k) 3))), (12, .ref q_1), (11, .int (nI (shB B))), (10, .int (nI (B.2 3))), (9, .int (nI (nn (B.1 k) 0))), (8, .int (nI (nn (B.1 k) 5))), (7, .int (nI k)), (6, .int x6), (5, .int (nI ti)), (4, .int (nI m6)), (3, .int (nI m5)), (2, .int (nI m4)), (1, .ref ra_1), (0, .ref z)]) hx hb dL_law_981 hl (by decide) rfl (fun ls hl => ?_)
    refine lv_aload_n hx hb dL_law_983 rfl (lv_at hl 13 rfl) ?_
    refine lv_iload hx hb dL_law_984 (lv_at hl 7 rfl) ?_
    have hF := chF [(q_1, .inl (kA 0, 4, .inl fro))] hD hS hA
    refine va_calli (va_runV (As := [.int (nI k)]) (rest := []) ⟨hx, hb, hml, hown, hts⟩ (c_X6_read_B l D kA z B ra_1 k (by first | assumption | omega) (by first | assumption | omega) (by first | assumption | omega) (by first | assumption | omega) _) (cwV 1 hts h_L_law_32 rfl rfl rfl (by decide +kernel) ⟨Nat.le_of_ble_eq_true rfl, Nat.le_of_ble_eq_true rfl⟩) (fPvB [(q_1, .inl (kA 0, 4, .inl fro))] (hbe) hK hP hD hS hG hF) rfl rfl hl.1 rfl (lv_room (Nat.le_of_ble_eq_true rfl)) dL_law_986 ⟨(Nat.le_trans (Nat.add_le_add_right (show 110 + ti + 1 ≤ 600086 by omega) _) (Nat.le_of_ble_eq_true rfl)), (Nat.le_trans (Nat.add_le_add_right (show 14000 + 4 * ti + 4 ≤ 7301442 by omega) _) (Nat.le_of_ble_eq_true rfl))⟩) hS (fun q _ h => hF q h) hF (fun r_74 w1 t H locs ht hvm hw hB hz1 hk1 hS => ?_)
    obtain ⟨hP, hD⟩ := chJ [(q_1, .inl (kA 0, 4, .inl fro))] hP hD hk1 hF ht hB
    try dsimp only at hw
    obtain ⟨S_9, dw_1, rfl, e_73, hdw_1, q_10⟩ := hw
    replace e_73 := e_73.symm
    subst e_73
    have hP : va_P D vwCl ([(q_1, .inl (kA 0, 4, .inl fro))] ++ wB kA (uP B.1 k S_9, uP (uP B.2 3 dw_1) 4 (B.2 4 + 1))) H := hP
    have hD : va_D A ([(q_1, .inl (kA 0, 4, .inl fro))] ++ wB kA (uP B.1 k S_9, uP (uP B.2 3 dw_1) 4 (B.2 4 + 1))) := hD
    obtain ⟨Bn, hBn⟩ : ∃ X : BS, X = (uP B.1 k S_9, uP (uP B.2 3 dw_1) 4 (B.2 4 + 1)) := ⟨_, rfl⟩
    rw [← hBn] at hP hD
    have hBk : Bn.1 k = S_9 := (congrArg (fun X : BS => X.1 k) hBn).trans (uP_at _ _ _)
    have hM0 : Bn.2 0 = B.2 0 := (congrArg (fun X : BS => X.2 0) hBn).trans ((uP_ne (α := Nat) (uP B.2 3 dw_1) (k := 4) (j := 0) (B.2 4 + 1) (by decide)).trans (uP_ne (α := Nat) B.2 (k := 3) (j := 0) dw_1 (by decide)))
    have hM2 : Bn.2 2 = B.2 2 := (congrArg (fun X : BS => X.2 2) hBn).trans ((uP_ne (α := Nat) (uP B.2 3 dw_1) (k := 4) (j := 2) (B.2 4 + 1) (by decide)).trans (uP_ne (α := Nat) B.2 (k := 3) (j := 2) dw_1 (by decide)))
    have hM3 : Bn.2 3 = dw_1 := (congrArg (fun X : BS => X.2 3) hBn).trans ((uP_ne (α := Nat) (uP B.2 3 dw_1) (k := 4) (j := 3) (B.2 4 + 1) (by decide)).trans (uP_at (α := Nat) B.2 3 dw_1))
    have hM4 : Bn.2 4 = B.2 4 + 1 := (congrArg (fun X : BS => X.2 4) hBn).trans (uP_at (α := Nat) (uP B.2 3 dw_1) 4 (B.2 4 + 1))
    have hM5 : Bn.2 5 = B.2 5 := (congrArg (fun X : BS => X.2 5) hBn).trans ((uP_ne (α := Nat) (uP B.2 3 dw_1) (k := 4) (j := 5) (B.2 4 + 1) (by decide)).trans (uP_ne (α := Nat) B.2 (k := 3) (j := 5) dw_1 (by decide)))
    have hM6 : Bn.2 6 = B.2 6 := (congrArg (fun X : BS => X.2 6) hBn).trans ((uP_ne (α := Nat) (uP B.2 3 dw_1) (k := 4) (j := 6) (B.2 4 + 1) (by decide)).trans (uP_ne (α := Nat) B.2 (k := 3) (j := 6) dw_1 (by decide)))
    have hbe : Bn.2 0 = ra_1 := hM0.trans hbe
    have hLn : LI Bn (ti + 5) := by rw [hBn]; exact LI_R hL hk q_10.1 hdw_1 q_10.2.2.2.1
    have hI := hLn.1
    have hsp1 := hI.2.2.1
    have hn5 : nn (Bn.1 k) 5 = nn (B.1 k) 5 := (congrArg (fun X => nn X 5) hBk).trans q_10.2.2.1
    have hr3 : nn (Bn.1 k) 3 = nn (B.1 k) 3 + 1 := (congrArg (fun X => nn X 3) hBk).trans q_10.2.2.2.1
    have hr1 : nn (Bn.1 k) 1 = min (nn (B.1 k) 1 + 1) 3 := (congrArg (fun X => nn X 1) hBk).trans q_10.2.2.2.2.1
    have hup : shB Bn + shS (B.1 k) = shB B + shS S_9 := by rw [hBn]; exact shB_up hk S_9 _
    have hrs := rd_sh q_10
    have hBn4 := shB_le hI
    have hl4n := q_10.1.len4 (nn S_9 1 - 1)
    have hlen : lenF (Bn.1 k) (nn (Bn.1 k) 1 - 1) = lenF S_9 (nn S_9 1 - 1) := by rw [hBk]
    have hfn : ∀ q, q < 4 → fro q = nI (nn (Bn.1 q) 5) := by rw [hBn]; exact fr_keep hfro q_10.2.2.1
    have hP : va_P D vwCl ([(q_1, .inl (kA 0, 4, .inl fro))] ++ wB kA Bn) H := hP
    have hD : va_D A ([(q_1, .inl (kA 0, 4, .inl fro))] ++ wB kA Bn) := hD
    refine lv_istore (lv' := [(15, .int (nI (lenF S_9 (nn S_9 1 - 1)))), (14, .int (nI (nn (B.1 k) 1))), (13, .int (nI (nn (B.1 k) 3))), (12, .ref q_1), (11, .int (nI (shB B))), (10, .int (nI (B.2 3))), (9, .int (nI (nn (B.1 k) 0))), (8, .int (nI (nn (B.1 k) 5))), (7, .int (nI k)), (6, .int x6), (5, .int (nI ti)), (4, .int (nI m6)), (3, .int (nI m5)), (2, .int (nI m4)), (1, .ref ra_1), (0, .ref z)]) hx hb dL_law_989 hl (by decide) rfl (fun ls hl => ?_)
    refine lv_iinc (v := nI (m4 + 1)) (lv' := [(2, .int (nI (m4 + 1))), (15, .int (nI (lenF S_9 (nn S_9 1 - 1)))), (14, .int (nI (nn (B.1 k) 1))), (13, .int (nI (nn (B.1 k) 3))), (12, .ref q_1), (11, .int (nI (shB B))), (10, .int (nI (B.2 3))), (9, .int (nI (nn (B.1 k) 0))), (8, .int (nI (nn (B.1 k) 5))), (7, .int (nI k)), (6, .int x6), (5, .int (nI ti)), (4, .int (nI m6)), (3, .int (nI m5)), (1, .ref ra_1), (0, .ref z)]) hx hb dL_law_991 hl (k := 13) rfl (nI_add m4 1) (by decide) rfl (fun ls hl => ?_)
    refine lv_aload_n hx hb dL_law_994 rfl (lv_at hl 14 rfl) ?_
    refine lv_iload hx hb dL_law_995 (lv_at hl 9 rfl) ?_
    refine lv_bipush (v := nI 10) hx hb dL_law_997 (by decide) ?_
    have hF := chF [(q_1, .inl (kA 0, 4, .inl fro))] hD hS hA
    refine va_calli (va_runV (As := [.int (nI k), .int (nI 10)]) (rest := []) ⟨hx, hb, hml, hown, hts⟩ (c_X6_ofTrack_B10 l D kA z Bn ra_1 k (by first | assumption | omega) (by first | assumption | omega) (by first | assumption | omega) _) (cwV 2 hts h_L_law_31 rfl rfl rfl (by decide +kernel) ⟨Nat.le_of_ble_eq_true rfl, Nat.le_of_ble_eq_true rfl⟩) (fPvB [(q_1, .inl (kA 0, 4, .inl fro))] (hbe) hK hP hD hS hG hF) rfl rfl hl.1 rfl (lv_room (Nat.le_of_ble_eq_true rfl)) dL_law_999 ⟨(Nat.le_trans (Nat.add_le_add_right (show 110 + ti + 1 ≤ 600086 by omega) _) (Nat.le_of_ble_eq_true rfl)), (Nat.le_trans (Nat.add_le_add_right (show 14000 + 4 * ti + 4 ≤ 7301442 by omega) _) (Nat.le_of_ble_eq_true rfl))⟩) hS (fun q _ h => hF q h) hF (fun r_75 w1 t H locs ht hvm hw hB hz1 hk1 hS => ?_)
    obtain ⟨hP, hD⟩ := chJ [(q_1, .inl (kA 0, 4, .inl fro))] hP hD hk1 hF ht hB
    try dsimp only at hw
    obtain ⟨rfl, e_74⟩ := hw
    replace e_74 := e_74.symm
    subst e_74
    have hP : va_P D vwCl ([(q_1, .inl (kA 0, 4, .inl fro))] ++ wB kA Bn) H := hP
    have hD : va_D A ([(q_1, .inl (kA 0, 4, .inl fro))] ++ wB kA Bn) := hD
    refine lv_iload hx hb dL_law_1002 (lv_at hl 3 rfl) ?_
    refine lv_iconst (v := nI 1) hx hb dL_law_1004 (by decide) ?_
    refine lv_iadd hx hb dL_law_1005 ?_
    rw [nI_add (nn (B.1 k) 3) 1]
    refine lv_icmp_ne (tgt := 1058) hx hb dL_law_1006 (by decide) (fun c1006 => False.elim (by rw [qeq (a := (nn (Bn.1 k) 3)) (b := (nn (B.1 k) 3 + 1)) (by omega) (by omega)] at c1006; omega)) (fun _ => ?_)
    refine lv_aload_n hx hb dL_law_1009 rfl (lv_at hl 14 rfl) ?_
    refine lv_iload hx hb dL_law_1010 (lv_at hl 9 rfl) ?_
    refine lv_iconst (v := nI 2) hx hb dL_law_1012 (by decide) ?_
    have hF := chF [(q_1, .inl (kA 0, 4, .inl fro))] hD hS hA
    refine va_calli (va_runV (As := [.int (nI k), .int (nI 2)]) (rest := []) ⟨hx, hb, hml, hown, hts⟩ (c_X6_ofTrack_B2 l D kA z Bn ra_1 k (by first | assumption | omega) (by first | assumption | omega) (by first | assumption | omega) _) (cwV 2 hts h_L_law_25 rfl rfl rfl (by decide +kernel) ⟨Nat.le_of_ble_eq_true rfl, Nat.le_of_ble_eq_true rfl⟩) (fPvB [(q_1, .inl (kA 0, 4, .inl fro))] (hbe) hK hP hD hS hG hF) rfl rfl hl.1 rfl (lv_room (Nat.le_of_ble_eq_true rfl)) dL_law_1013 ⟨(Nat.le_trans (Nat.add_le_add_right (show 110 + ti + 1 ≤ 600086 by omega) _) (Nat.le_of_ble_eq_true rfl)), (Nat.le_trans (Nat.add_le_add_right (show 14000 + 4 * ti + 4 ≤ 7301442 by omega) _) (Nat.le_of_ble_eq_true rfl))⟩) hS (fun q _ h => hF q h) hF (fun r_76 w1 t H locs ht hvm hw hB hz1 hk1 hS => ?_)
    obtain ⟨hP, hD⟩ := chJ [(q_1, .inl (kA 0, 4, .inl fro))] hP hD hk1 hF ht hB
    try dsimp only at hw
    obtain ⟨rfl, e_75⟩ := hw
    replace e_75 := e_75.symm
    subst e_75
    have hP : va_P D vwCl ([(q_1, .inl (kA 0, 4, .inl fro))] ++ wB kA Bn) H := hP
    have hD : va_D A ([(q_1, .inl (kA 0, 4, .inl fro))] ++ wB kA Bn) := hD
    refine lv_iconst (v := nI 3) hx hb dL_law_1016 (by decide) ?_
    refine lv_iload hx hb dL_law_1017 (lv_at hl 2 rfl) ?_
    refine lv_iconst (v := nI 1) hx hb dL_law_1019 (by decide) ?_
    refine lv_iadd hx hb dL_law_1020 ?_
    rw [nI_add (nn (B.1 k) 1) 1]
    refine va_mmin hx hb (by rw [hml]; exact hl.1.symm) hown (wAt hts 59 (w := .methodLink RL 87 Lib.Math.min.name) rfl) (wAt hts 60 (w := .static Lib.Math.min.name) rfl) (wAt hts 43 (w := .initialized "java/lang/Math") rfl) (wAt hts 61 (w := .code Lib.Math.min.name Lib.Math.min.code 2 (some .int)) rfl) (Nat.le_of_ble_eq_true rfl) (Nat.le_of_ble_eq_true rfl) (Nat.le_trans (show 110 + ti + 1 + 0 ≤ 600086 by omega) (Nat.le_of_ble_eq_true rfl)) (Nat.le_trans (show 14000 + 4 * ti + 4 + 0 ≤ 7301442 by omega) (Nat.le_of_ble_eq_true rfl)) dL_law_1021 ?_
    rw [qmin (a := 3) (b := (nn (B.1 k) 1 + 1)) (by omega) (by omega)]
    refine lv_icmp_ne (tgt := 1058) hx hb dL_law_1024 (by decide) (fun c1024 => False.elim (by rw [qeq (a := (nn (Bn.1 k) 1)) (b := (min 3 (nn (B.1 k) 1 + 1))) (by omega) (by omega)] at c1024; omega)) (fun _ => ?_)
    refine lv_aload_n hx hb dL_law_1027 rfl (lv_at hl 14 rfl) ?_
    refine lv_iload hx hb dL_law_1028 (lv_at hl 9 rfl) ?_
    refine lv_aload_n hx hb dL_law_1030 rfl (lv_at hl 14 rfl) ?_
    refine lv_iload hx hb dL_law_1031 (lv_at hl 9 rfl) ?_
    refine lv_iconst (v := nI 2) hx hb dL_law_1033 (by decide) ?_
    have hF := chF [(q_1, .inl (kA 0, 4, .inl fro))] hD hS hA
    refine va_calli (va_runV (As := [.int (nI k), .int (nI 2)]) (rest := [.int (nI k), .ref ra_1]) ⟨hx, hb, hml, hown, hts⟩ (c_X6_ofTrack_B2 l D kA z Bn ra_1 k (by first | assumption | omega) (by first | assumption | omega) (by first | assumption | omega) _) (cwV 2 hts h_L_law_25 rfl rfl rfl (by decide +kernel) ⟨Nat.le_of_ble_eq_true rfl, Nat.le_of_ble_eq_true rfl⟩) (fPvB [(q_1, .inl (kA 0, 4, .inl fro))] (hbe) hK hP hD hS hG hF) rfl rfl hl.1 rfl (lv_room (Nat.le_of_ble_eq_true rfl)) dL_law_1034 ⟨(Nat.le_trans (Nat.add_le_add_right (show 110 + ti + 1 ≤ 600086 by omega) _) (Nat.le_of_ble_eq_true rfl)), (Nat.le_trans (Nat.add_le_add_right (show 14000 + 4 * ti + 4 ≤ 7301442 by omega) _) (Nat.le_of_ble_eq_true rfl))⟩) hS (fun q _ h => hF q h) hF (fun r_77 w1 t H locs ht hvm hw hB hz1 hk1 hS => ?_)
    obtain ⟨hP, hD⟩ := chJ [(q_1, .inl (kA 0, 4, .inl fro))] hP hD hk1 hF ht hB
    try dsimp only at hw
    obtain ⟨rfl, e_76⟩ := hw
    replace e_76 := e_76.symm
    subst e_76
    have hP : va_P D vwCl ([(q_1, .inl (kA 0, 4, .inl fro))] ++ wB kA Bn) H := hP
    have hD : va_D A ([(q_1, .inl (kA 0, 4, .inl fro))] ++ wB kA Bn) := hD
    refine lv_iconst (v := nI 1) hx hb dL_law_1037 (by decide) ?_
    refine lv_isub hx hb dL_law_1038 ?_
    rw [pk_sub (a := (nn (Bn.1 k) 1)) (b := 1) (by omega)]
    refine lv_iconst (v := nI 0) hx hb dL_law_1039 (by decide) ?_
    have hF := chF [(q_1, .inl (kA 0, 4, .inl fro))] hD hS hA
    refine va_calli (va_runV (As := [.int (nI k), .int (nI (nn (Bn.1 k) 1 - 1)), .int (nI 0)]) (rest := []) ⟨hx, hb, hml, hown, hts⟩ (c_X6_turn_lB l D kA z Bn ra_1 k (nn (Bn.1 k) 1 - 1) (by first | assumption | omega) (by first | assumption | omega) (by first | assumption | omega) (by first | assumption | omega) _) (cwV 3 hts h_L_law_33 rfl rfl rfl (by decide +kernel) ⟨Nat.le_of_ble_eq_true rfl, Nat.le_of_ble_eq_true rfl⟩) (fPvB [(q_1, .inl (kA 0, 4, .inl fro))] (hbe) hK hP hD hS hG hF) rfl rfl hl.1 rfl (lv_room (Nat.le_of_ble_eq_true rfl)) dL_law_1040 ⟨(Nat.le_trans (Nat.add_le_add_right (show 110 + ti + 1 ≤ 600086 by omega) _) (Nat.le_of_ble_eq_true rfl)), (Nat.le_trans (Nat.add_le_add_right (show 14000 + 4 * ti + 4 ≤ 7301442 by omega) _) (Nat.le_of_ble_eq_true rfl))⟩) hS (fun q _ h => hF q h) hF (fun r_78 w1 t H locs ht hvm hw hB hz1 hk1 hS => ?_)
    obtain ⟨hP, hD⟩ := chJ [(q_1, .inl (kA 0, 4, .inl fro))] hP hD hk1 hF ht hB
    try dsimp only at hw
    obtain ⟨rfl, e_77⟩ := hw
    replace e_77 := e_77.symm
    subst e_77
    have hP : va_P D vwCl ([(q_1, .inl (kA 0, 4, .inl fro))] ++ wB kA Bn) H := hP
    have hD : va_D A ([(q_1, .inl (kA 0, 4, .inl fro))] ++ wB kA Bn) := hD
    refine lv_iload hx hb dL_law_1043 (lv_at hl 1 rfl) ?_
    refine lv_icmp_ne (tgt := 1058) hx hb dL_law_1045 (by decide) (fun c1045 => False.elim (by rw [qeq (a := (lenF (Bn.1 k) (nn (Bn.1 k) 1 - 1))) (b := (lenF S_9 (nn S_9 1 - 1))) (by omega) (by omega)] at c1045; omega)) (fun _ => ?_)
    refine lv_aload_n hx hb dL_law_1048 rfl (lv_at hl 14 rfl) ?_
    refine lv_iconst (v := nI 4) hx hb dL_law_1049 (by decide) ?_
    have hF := chF [(q_1, .inl (kA 0, 4, .inl fro))] hD hS hA
    refine va_calli (va_runV (As := [.int (nI 4)]) (rest := []) ⟨hx, hb, hml, hown, hts⟩ (c_X6_many_B4 l D kA z Bn ra_1 (by first | assumption | omega) (by first | assumption | omega) _) (cwV 1 hts h_L_law_9 rfl rfl rfl (by decide +kernel) ⟨Nat.le_of_ble_eq_true rfl, Nat.le_of_ble_eq_true rfl⟩) (fPvB [(q_1, .inl (kA 0, 4, .inl fro))] (hbe) hK hP hD hS hG hF) rfl rfl hl.1 rfl (lv_room (Nat.le_of_ble_eq_true rfl)) dL_law_1050 ⟨(Nat.le_trans (Nat.add_le_add_right (show 110 + ti + 1 ≤ 600086 by omega) _) (Nat.le_of_ble_eq_true rfl)), (Nat.le_trans (Nat.add_le_add_right (show 14000 + 4 * ti + 4 ≤ 7301442 by omega) _) (Nat.le_of_ble_eq_true rfl))⟩) hS (fun q _ h => hF q h) hF (fun r_79 w1 t H locs ht hvm hw hB hz1 hk1 hS => ?_)
    obtain ⟨hP, hD⟩ := chJ [(q_1, .inl (kA 0, 4, .inl fro))] hP hD hk1 hF ht hB
    try dsimp only at hw
    obtain ⟨rfl, e_78⟩ := hw
    replace e_78 := e_78.symm
    subst e_78
    have hP : va_P D vwCl ([(q_1, .inl (kA 0, 4, .inl fro))] ++ wB kA Bn) H := hP
    have hD : va_D A ([(q_1, .inl (kA 0, 4, .inl fro))] ++ wB kA Bn) := hD
    refine lv_iload hx hb dL_law_1053 (lv_at hl 5 rfl) ?_
    refine lv_icmp_ge (tgt := 1060) hx hb dL_law_1055 (by decide) (fun _ => ?_) (fun c1055 => False.elim (by rw [qle (a := (shB B)) (b := (shB Bn)) (by omega) (by omega)] at c1055; omega))
    refine lv_aload_n hx hb dL_law_1060 rfl (lv_at hl 14 rfl) ?_
    refine lv_iconst (v := nI 2) hx hb dL_law_1061 (by decide) ?_
    have hF := chF [(q_1, .inl (kA 0, 4, .inl fro))] hD hS hA
    refine va_calli (va_runV (As := [.int (nI 2)]) (rest := []) ⟨hx, hb, hml, hown, hts⟩ (c_X6_many_B2 l D kA z Bn ra_1 (by first | assumption | omega) (by first | assumption | omega) _) (cwV 1 hts h_L_law_8 rfl rfl rfl (by decide +kernel) ⟨Nat.le_of_ble_eq_true rfl, Nat.le_of_ble_eq_true rfl⟩) (fPvB [(q_1, .inl (kA 0, 4, .inl fro))] (hbe) hK hP hD hS hG hF) rfl rfl hl.1 rfl (lv_room (Nat.le_of_ble_eq_true rfl)) dL_law_1062 ⟨(Nat.le_trans (Nat.add_le_add_right (show 110 + ti + 1 ≤ 600086 by omega) _) (Nat.le_of_ble_eq_true rfl)), (Nat.le_trans (Nat.add_le_add_right (show 14000 + 4 * ti + 4 ≤ 7301442 by omega) _) (Nat.le_of_ble_eq_true rfl))⟩) hS (fun q _ h => hF q h) hF (fun r_80 w1 t H locs ht hvm hw hB hz1 hk1 hS => ?_)
    obtain ⟨hP, hD⟩ := chJ [(q_1, .inl (kA 0, 4, .inl fro))] hP hD hk1 hF ht hB
    try dsimp only at hw
    obtain ⟨rfl, e_79⟩ := hw
    replace e_79 := e_79.symm
    subst e_79
    have hP : va_P D vwCl ([(q_1, .inl (kA 0, 4, .inl fro))] ++ wB kA Bn) H := hP
    have hD : va_D A ([(q_1, .inl (kA 0, 4, .inl fro))] ++ wB kA Bn) := hD
    refine lv_istore (lv' := [(10, .int (nI (Bn.2 3))), (2, .int (nI (m4 + 1))), (15, .int (nI (lenF S_9 (nn S_9 1 - 1)))), (14, .int (nI (nn (B.1 k) 1))), (13, .int (nI (nn (B.1 k) 3))), (12, .ref q_1), (11, .int (nI (shB B))), (9, .int (nI (nn (B.1 k) 0))), (8, .int (nI (nn (B.1 k) 5))), (7, .int (nI k)), (6, .int x6), (5, .int (nI ti)), (4, .int (nI m6)), (3, .int (nI m5)), (1, .ref ra_1), (0, .ref z)]) hx hb dL_law_1065 hl (by decide) rfl (fun ls hl => ?_)
    exact jn_1067 Bn fro (Bn.2 3) (m4 + 1) m5 m6 trivial hbe (hLn.le (by omega)) hfn (by omega) (by omega) (by omega) (by omega) _ _ _ hP hD hS (lv_sub hl [0, 12, 13, 1, 5, 11, 14, 15] rfl)
  ·
    rw [qz (a := (nn (B.1 k) 5)) (by omega)] at c958
    refine lv_goto (tgt := 1067) hx hb dL_law_961 (by decide) ?_
    exact jn_1067 B fro (B.2 3) m4 m5 m6 trivial hbe (hL.le (by omega)) hfro (by omega) (by omega) (by omega) (by omega) _ _ _ hP hD hS (lv_sub hl [2, 8, 9, 10, 0, 7, 11, 12] rfl)
