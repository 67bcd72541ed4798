theorem exw_IndexOutOfBoundsException : ∀ w ∈ (vx_atS RX6 212 "java/lang/IndexOutOfBoundsException" ["java/lang/RuntimeException", "java/lang/Exception"]).filter (fun w => !goodWord w), w ∈ [.declares ⟨"java/lang/RuntimeException", "<init>", "(Ljava/lang/String;)V"⟩, .declares ⟨"java/lang/Exception", "<init>", "(Ljava/lang/String;)V"⟩, .declares ⟨"java/lang/Throwable", "<init>", "(Ljava/lang/String;)V"⟩, .castable "java/lang/IndexOutOfBoundsException" "java/lang/IndexOutOfBoundsException"] := by decide +kernel
theorem exot_IndexOutOfBoundsException {ik : Nat} : ∀ w ∈ Cond.classLink RX6 ik "java/lang/IndexOutOfBoundsException" :: Cond.initialized "java/lang/IndexOutOfBoundsException" :: (vx_atS RX6 212 "java/lang/IndexOutOfBoundsException" ["java/lang/RuntimeException", "java/lang/Exception"]), vx_ot w = true := by
  intro w hw
  rcases List.mem_cons.mp hw with rfl | hw
  · rfl
  · rcases List.mem_cons.mp hw with rfl | hw
    · rfl
    · exact (by decide +kernel : ∀ w ∈ (vx_atS RX6 212 "java/lang/IndexOutOfBoundsException" ["java/lang/RuntimeException", "java/lang/Exception"]), vx_ot w = true) w hw
theorem exat_IndexOutOfBoundsException {args : Array Value} {s : State} (h1 : ∀ w ∈ (vx_atS RX6 212 "java/lang/IndexOutOfBoundsException" ["java/lang/RuntimeException", "java/lang/Exception"]).filter goodWord, w.before args s = true) (hU : gU s) : ∀ w ∈ (vx_atS RX6 212 "java/lang/IndexOutOfBoundsException" ["java/lang/RuntimeException", "java/lang/Exception"]), w.before args s = true :=
  vx_hat h1 exw_IndexOutOfBoundsException (vx_c (va_Nw.use rfl (hU.2.2.2.2.2 _ (List.mem_of_getElem? (i := 3) rfl))) (vx_c (va_Nw.use rfl (hU.2.2.2.2.2 _ (List.mem_of_getElem? (i := 1) rfl))) (vx_c (va_Nw.use rfl (hU.2.2.2.2.2 _ (List.mem_of_getElem? (i := 5) rfl))) (vx_c (va_Nw.use rfl (hU.2.2.2.1 _ (List.mem_of_getElem? (i := 2) rfl))) vx_n))))
theorem exw_IllegalStateException : ∀ w ∈ (vx_atS RX6 42 "java/lang/IllegalStateException" ["java/lang/RuntimeException", "java/lang/Exception"]).filter (fun w => !goodWord w), w ∈ [.declares ⟨"java/lang/RuntimeException", "<init>", "(Ljava/lang/String;)V"⟩, .declares ⟨"java/lang/Exception", "<init>", "(Ljava/lang/String;)V"⟩, .declares ⟨"java/lang/Throwable", "<init>", "(Ljava/lang/String;)V"⟩, .castable "java/lang/IllegalStateException" "java/lang/IllegalStateException"] := by decide +kernel
theorem exot_IllegalStateException {ik : Nat} : ∀ w ∈ Cond.classLink RX6 ik "java/lang/IllegalStateException" :: Cond.initialized "java/lang/IllegalStateException" :: (vx_atS RX6 42 "java/lang/IllegalStateException" ["java/lang/RuntimeException", "java/lang/Exception"]), vx_ot w = true := by
  intro w hw
  rcases List.mem_cons.mp hw with rfl | hw
  · rfl
  · rcases List.mem_cons.mp hw with rfl | hw
    · rfl
    · exact (by decide +kernel : ∀ w ∈ (vx_atS RX6 42 "java/lang/IllegalStateException" ["java/lang/RuntimeException", "java/lang/Exception"]), vx_ot w = true) w hw
theorem exat_IllegalStateException {args : Array Value} {s : State} (h1 : ∀ w ∈ (vx_atS RX6 42 "java/lang/IllegalStateException" ["java/lang/RuntimeException", "java/lang/Exception"]).filter goodWord, w.before args s = true) (hU : gU s) : ∀ w ∈ (vx_atS RX6 42 "java/lang/IllegalStateException" ["java/lang/RuntimeException", "java/lang/Exception"]), w.before args s = true :=
  vx_hat h1 exw_IllegalStateException (vx_c (va_Nw.use rfl (hU.2.2.2.2.2 _ (List.mem_of_getElem? (i := 3) rfl))) (vx_c (va_Nw.use rfl (hU.2.2.2.2.2 _ (List.mem_of_getElem? (i := 1) rfl))) (vx_c (va_Nw.use rfl (hU.2.2.2.2.2 _ (List.mem_of_getElem? (i := 5) rfl))) (vx_c (va_Nw.use rfl (hU.2.2.2.1 _ (List.mem_of_getElem? (i := 1) rfl))) vx_n))))
theorem exw_IllegalArgumentException : ∀ w ∈ (vx_atS RX6 51 "java/lang/IllegalArgumentException" ["java/lang/RuntimeException", "java/lang/Exception"]).filter (fun w => !goodWord w), w ∈ [.declares ⟨"java/lang/RuntimeException", "<init>", "(Ljava/lang/String;)V"⟩, .declares ⟨"java/lang/Exception", "<init>", "(Ljava/lang/String;)V"⟩, .declares ⟨"java/lang/Throwable", "<init>", "(Ljava/lang/String;)V"⟩, .castable "java/lang/IllegalArgumentException" "java/lang/IllegalArgumentException"] := by decide +kernel
theorem exot_IllegalArgumentException {ik : Nat} : ∀ w ∈ Cond.classLink RX6 ik "java/lang/IllegalArgumentException" :: Cond.initialized "java/lang/IllegalArgumentException" :: (vx_atS RX6 51 "java/lang/IllegalArgumentException" ["java/lang/RuntimeException", "java/lang/Exception"]), vx_ot w = true := by
  intro w hw
  rcases List.mem_cons.mp hw with rfl | hw
  · rfl
  · rcases List.mem_cons.mp hw with rfl | hw
    · rfl
    · exact (by decide +kernel : ∀ w ∈ (vx_atS RX6 51 "java/lang/IllegalArgumentException" ["java/lang/RuntimeException", "java/lang/Exception"]), vx_ot w = true) w hw
theorem exat_IllegalArgumentException {args : Array Value} {s : State} (h1 : ∀ w ∈ (vx_atS RX6 51 "java/lang/IllegalArgumentException" ["java/lang/RuntimeException", "java/lang/Exception"]).filter goodWord, w.before args s = true) (hU : gU s) : ∀ w ∈ (vx_atS RX6 51 "java/lang/IllegalArgumentException" ["java/lang/RuntimeException", "java/lang/Exception"]), w.before args s = true :=
  vx_hat h1 exw_IllegalArgumentException (vx_c (va_Nw.use rfl (hU.2.2.2.2.2 _ (List.mem_of_getElem? (i := 3) rfl))) (vx_c (va_Nw.use rfl (hU.2.2.2.2.2 _ (List.mem_of_getElem? (i := 1) rfl))) (vx_c (va_Nw.use rfl (hU.2.2.2.2.2 _ (List.mem_of_getElem? (i := 5) rfl))) (vx_c (va_Nw.use rfl (hU.2.2.2.1 _ (List.mem_of_getElem? (i := 0) rfl))) vx_n))))
