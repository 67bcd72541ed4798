theorem dX9_init_0 : decode cX9_init 0 = .ok (.aload_n 0, 1) := by decide +kernel
theorem dX9_init_1 : decode cX9_init 1 = .ok (.invokespecial 3, 3) := by decide +kernel
theorem dX9_init_4 : decode cX9_init 4 = .ok (.aload_n 0, 1) := by decide +kernel
theorem dX9_init_5 : decode cX9_init 5 = .ok (.sipush 400, 3) := by decide +kernel
theorem dX9_init_8 : decode cX9_init 8 = .ok (.newarray .int, 2) := by decide +kernel
theorem dX9_init_10 : decode cX9_init 10 = .ok (.putfield 9, 3) := by decide +kernel
theorem dX9_init_13 : decode cX9_init 13 = .ok (.aload_n 0, 1) := by decide +kernel
theorem dX9_init_14 : decode cX9_init 14 = .ok (.ldc2_w 15, 3) := by decide +kernel
theorem dX9_init_17 : decode cX9_init 17 = .ok (.putfield 17, 3) := by decide +kernel
theorem dX9_init_20 : decode cX9_init 20 = .ok (.return_, 1) := by decide +kernel
theorem dX9_add_0 : decode cX9_add 0 = .ok (.aload_n 0, 1) := by decide +kernel
theorem dX9_add_1 : decode cX9_add 1 = .ok (.getfield 21, 3) := by decide +kernel
theorem dX9_add_4 : decode cX9_add 4 = .ok (.sipush 400, 3) := by decide +kernel
theorem dX9_add_7 : decode cX9_add 7 = .ok (.if_icmp .ne 4, 3) := by decide +kernel
theorem dX9_add_10 : decode cX9_add 10 = .ok (.return_, 1) := by decide +kernel
theorem dX9_add_11 : decode cX9_add 11 = .ok (.aload_n 0, 1) := by decide +kernel
theorem dX9_add_12 : decode cX9_add 12 = .ok (.getfield 9, 3) := by decide +kernel
theorem dX9_add_15 : decode cX9_add 15 = .ok (.aload_n 0, 1) := by decide +kernel
theorem dX9_add_16 : decode cX9_add 16 = .ok (.getfield 21, 3) := by decide +kernel
theorem dX9_add_19 : decode cX9_add 19 = .ok (.iload_n 1, 1) := by decide +kernel
theorem dX9_add_20 : decode cX9_add 20 = .ok (.iastore, 1) := by decide +kernel
theorem dX9_add_21 : decode cX9_add 21 = .ok (.aload_n 0, 1) := by decide +kernel
theorem dX9_add_22 : decode cX9_add 22 = .ok (.dup, 1) := by decide +kernel
theorem dX9_add_23 : decode cX9_add 23 = .ok (.getfield 21, 3) := by decide +kernel
theorem dX9_add_26 : decode cX9_add 26 = .ok (.iconst 1, 1) := by decide +kernel
theorem dX9_add_27 : decode cX9_add 27 = .ok (.iadd, 1) := by decide +kernel
theorem dX9_add_28 : decode cX9_add 28 = .ok (.putfield 21, 3) := by decide +kernel
theorem dX9_add_31 : decode cX9_add 31 = .ok (.return_, 1) := by decide +kernel
set_option maxRecDepth 20000 in
theorem ggX9_hear_J9_rint_294c1 : GoodIn wsX9_hear wsJ9_rint_294c1 := goodIn_r _ [8, 9, 10, 11, 12, 13, 14, 15, 7, 16, 17, 18, 19, 20, 21, 22, 23, 24, 25, 26, 27, 28] (by decide +kernel) (by decide +kernel)
set_option maxRecDepth 20000 in
theorem gX9_hear_J9_rint_294c1 : GoodIn wsX9_hear (va_wsS RX9 25 yJ9_rint_294c1 wsJ9_rint_294c1) := goodIn_app (goodIn_of _ (by decide +kernel)) ggX9_hear_J9_rint_294c1
set_option maxRecDepth 20000 in
theorem ggX9_hear_J9_max_eb370 : GoodIn wsX9_hear wsJ9_max_eb370 := goodIn_r _ [31, 17, 18, 19, 20, 32] (by decide +kernel) (by decide +kernel)
set_option maxRecDepth 20000 in
theorem gX9_hear_J9_max_eb370 : GoodIn wsX9_hear (va_wsS RX9 31 yJ9_max_eb370 wsJ9_max_eb370) := goodIn_app (goodIn_of _ (by decide +kernel)) ggX9_hear_J9_max_eb370
set_option maxRecDepth 20000 in
theorem ggX9_hear_X9_add : GoodIn wsX9_hear wsX9_add := goodIn_r _ [37, 38, 39, 43, 44, 45] (by decide +kernel) (by decide +kernel)
set_option maxRecDepth 20000 in
theorem gX9_hear_X9_add : GoodIn wsX9_hear (wsV RX9 35 RX9 yX9_add wsX9_add) := goodIn_app (goodIn_of _ (by decide +kernel)) ggX9_hear_X9_add
set_option maxRecDepth 20000 in
theorem ggX9_hear_J9_min_eb370 : GoodIn wsX9_hear wsJ9_min_eb370 := goodIn_r _ [42, 17, 18, 19, 20, 32] (by decide +kernel) (by decide +kernel)
set_option maxRecDepth 20000 in
theorem gX9_hear_J9_min_eb370 : GoodIn wsX9_hear (va_wsS RX9 45 yJ9_min_eb370 wsJ9_min_eb370) := goodIn_app (goodIn_of _ (by decide +kernel)) ggX9_hear_J9_min_eb370
theorem dX9_hear_0 : decode cX9_hear 0 = .ok (.dconst 1, 1) := by decide +kernel
theorem dX9_hear_1 : decode cX9_hear 1 = .ok (.iload_n 1, 1) := by decide +kernel
theorem dX9_hear_2 : decode cX9_hear 2 = .ok (.i2d, 1) := by decide +kernel
theorem dX9_hear_3 : decode cX9_hear 3 = .ok (.aload_n 0, 1) := by decide +kernel
theorem dX9_hear_4 : decode cX9_hear 4 = .ok (.getfield 17, 3) := by decide +kernel
theorem dX9_hear_7 : decode cX9_hear 7 = .ok (.ddiv, 1) := by decide +kernel
theorem dX9_hear_8 : decode cX9_hear 8 = .ok (.invokestatic 25, 3) := by decide +kernel
theorem dX9_hear_11 : decode cX9_hear 11 = .ok (.invokestatic 31, 3) := by decide +kernel
theorem dX9_hear_14 : decode cX9_hear 14 = .ok (.dstore_n 2, 1) := by decide +kernel
theorem dX9_hear_15 : decode cX9_hear 15 = .ok (.iconst 1, 1) := by decide +kernel
theorem dX9_hear_16 : decode cX9_hear 16 = .ok (.istore 4, 2) := by decide +kernel
theorem dX9_hear_18 : decode cX9_hear 18 = .ok (.iload 4, 2) := by decide +kernel
theorem dX9_hear_20 : decode cX9_hear 20 = .ok (.dload_n 2, 1) := by decide +kernel
theorem dX9_hear_21 : decode cX9_hear 21 = .ok (.d2i, 1) := by decide +kernel
theorem dX9_hear_22 : decode cX9_hear 22 = .ok (.if_icmp .ge 14, 3) := by decide +kernel
theorem dX9_hear_25 : decode cX9_hear 25 = .ok (.aload_n 0, 1) := by decide +kernel
theorem dX9_hear_26 : decode cX9_hear 26 = .ok (.iconst 0, 1) := by decide +kernel
theorem dX9_hear_27 : decode cX9_hear 27 = .ok (.invokevirtual 35, 3) := by decide +kernel
theorem dX9_hear_30 : decode cX9_hear 30 = .ok (.iinc 4 1, 3) := by decide +kernel
theorem dX9_hear_33 : decode cX9_hear 33 = .ok (.goto (-15), 3) := by decide +kernel
theorem dX9_hear_36 : decode cX9_hear 36 = .ok (.aload_n 0, 1) := by decide +kernel
theorem dX9_hear_37 : decode cX9_hear 37 = .ok (.iconst 1, 1) := by decide +kernel
theorem dX9_hear_38 : decode cX9_hear 38 = .ok (.invokevirtual 35, 3) := by decide +kernel
theorem dX9_hear_41 : decode cX9_hear 41 = .ok (.aload_n 0, 1) := by decide +kernel
theorem dX9_hear_42 : decode cX9_hear 42 = .ok (.ldc2_w 39, 3) := by decide +kernel
theorem dX9_hear_45 : decode cX9_hear 45 = .ok (.ldc2_w 41, 3) := by decide +kernel
theorem dX9_hear_48 : decode cX9_hear 48 = .ok (.aload_n 0, 1) := by decide +kernel
theorem dX9_hear_49 : decode cX9_hear 49 = .ok (.getfield 17, 3) := by decide +kernel
theorem dX9_hear_52 : decode cX9_hear 52 = .ok (.iload_n 1, 1) := by decide +kernel
theorem dX9_hear_53 : decode cX9_hear 53 = .ok (.i2d, 1) := by decide +kernel
theorem dX9_hear_54 : decode cX9_hear 54 = .ok (.dload_n 2, 1) := by decide +kernel
theorem dX9_hear_55 : decode cX9_hear 55 = .ok (.ddiv, 1) := by decide +kernel
theorem dX9_hear_56 : decode cX9_hear 56 = .ok (.aload_n 0, 1) := by decide +kernel
theorem dX9_hear_57 : decode cX9_hear 57 = .ok (.getfield 17, 3) := by decide +kernel
theorem dX9_hear_60 : decode cX9_hear 60 = .ok (.dsub, 1) := by decide +kernel
theorem dX9_hear_61 : decode cX9_hear 61 = .ok (.ldc2_w 43, 3) := by decide +kernel
theorem dX9_hear_64 : decode cX9_hear 64 = .ok (.dmul, 1) := by decide +kernel
theorem dX9_hear_65 : decode cX9_hear 65 = .ok (.dadd, 1) := by decide +kernel
theorem dX9_hear_66 : decode cX9_hear 66 = .ok (.invokestatic 45, 3) := by decide +kernel
theorem dX9_hear_69 : decode cX9_hear 69 = .ok (.invokestatic 31, 3) := by decide +kernel
theorem dX9_hear_72 : decode cX9_hear 72 = .ok (.putfield 17, 3) := by decide +kernel
theorem dX9_hear_75 : decode cX9_hear 75 = .ok (.return_, 1) := by decide +kernel
theorem dX9_at_0 : decode cX9_at 0 = .ok (.aload_n 0, 1) := by decide +kernel
theorem dX9_at_1 : decode cX9_at 1 = .ok (.getfield 9, 3) := by decide +kernel
theorem dX9_at_4 : decode cX9_at 4 = .ok (.iload_n 1, 1) := by decide +kernel
theorem dX9_at_5 : decode cX9_at 5 = .ok (.iaload, 1) := by decide +kernel
theorem dX9_at_6 : decode cX9_at 6 = .ok (.ireturn, 1) := by decide +kernel
