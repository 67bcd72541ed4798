/-- the text constants that the class loads: owner, place in its pool, text -/
def gStrs : List (String × Nat × String) := [(RX6, 40, "there are as many tracks as there may be"), (RX6, 49, "a speed is 6 to 11"), (RX6, 88, "a count is 1 to 4"), (RX6, 90, "data is not below 0"), (RX6, 112, "the last place is not ahead of the first"), (RX6, 124, "the row is empty"), (RX6, 145, "a track is not copied into itself"), (RX6, 150, "the first track has no turn"), (RX6, 210, "there is no such place in the vote"), (RX6, 227, "there is no such sector"), (RX6, 279, "there is no such track"), (RX6, 281, "there is no such track yet"), (RX6, 283, "there is no such turn"), (RX6, 292, "there is no such place in the row"), (RX6, 294, "a code is 0 to 2"), (RX6, 296, "a byte is 0 to 255"), (RX6, 298, "there is no such thing to ask for"), (RX6, 303, "the row would have more than 400 cells")]
def gNm : List (String × Nat × MethodName × String) := [(RX4, 11, yX3_init, "FluxBench"), (RX4, 20, yX2_init, "FluxBench"), (RX4, 41, yX5_init, "FluxBench"), (RX5, 9, yX2_init, "FluxBench")]
def gNf : List (String × Nat × String × String × String × String) := []
def gAo : List String := ["FluxBench$Track"]
def gCs : List (String × String) := [("java/lang/IllegalArgumentException", "java/lang/IllegalArgumentException"), ("java/lang/IllegalStateException", "java/lang/IllegalStateException"), ("java/lang/IndexOutOfBoundsException", "java/lang/IndexOutOfBoundsException")]
def gNc : List (String × String) := [("FluxBench", "java/lang/IllegalStateException"), ("FluxBench$Finds", "java/lang/IllegalStateException"), ("FluxBench$Row", "java/lang/IllegalStateException"), ("FluxBench$Surface", "java/lang/IllegalStateException"), ("FluxBench$Track", "java/lang/IllegalStateException"), ("FluxBench$Turn", "java/lang/IllegalStateException"), ("java/lang/IllegalArgumentException", "java/lang/IllegalStateException"), ("java/lang/IndexOutOfBoundsException", "java/lang/IllegalStateException")]
def gDs : List MethodName := [⟨"java/lang/Exception", "<init>", "()V"⟩, ⟨"java/lang/Exception", "<init>", "(Ljava/lang/String;)V"⟩, ⟨"java/lang/RuntimeException", "<init>", "()V"⟩, ⟨"java/lang/RuntimeException", "<init>", "(Ljava/lang/String;)V"⟩, ⟨"java/lang/Throwable", "<init>", "()V"⟩, ⟨"java/lang/Throwable", "<init>", "(Ljava/lang/String;)V"⟩]
/-- the law's script, at z -/
abbrev gL (z : Nat) (A : Nat → Prop) (U : State) (H : Heap) : Prop := ∃ (L : Nat) (f : Nat → Int32), va_T .int z L (fun j => .int (f j)) A U H ∧ L < 2 ^ 31
theorem gL_moved {z : Nat} {A : Nat → Prop} {u U : State} {H : Heap} (ha : u.vm.Alike U.vm) (h : gL z A u H) : gL z A U H := by
  obtain ⟨L, f, h1, h2⟩ := h
  exact ⟨L, f, va_T.moved ha h1, h2⟩
theorem gL_kept {z : Nat} {A : Nat → Prop} {U : State} {H H1 : Heap} (h : gL z A U H) (hq : ∀ a : Nat, a < H.size → ¬ A a → H1[a]? = H[a]?) : gL z A U H1 := by
  obtain ⟨L, f, h1, h2⟩ := h
  exact ⟨L, f, va_T.kept h1 hq, h2⟩
theorem gL_narrow {z : Nat} {A B : Nat → Prop} {U : State} {H : Heap} (h : gL z A U H) (hAB : ∀ q, B q → A q) : gL z B U H := by
  obtain ⟨L, f, h1, h2⟩ := h
  exact ⟨L, f, va_T.narrow h1 hAB, h2⟩
