set_option maxRecDepth 20000 in
theorem ggX5_init_X2_init : GoodIn wsX5_init wsX2_init := goodIn_r _ [11, 12, 2, 3, 13, 14, 15, 16, 17, 18, 19] (by decide +kernel) (by decide +kernel)
set_option maxRecDepth 20000 in
theorem gX5_init_X2_init_n9 : GoodIn wsX5_init (wsX2_init) := ggX5_init_X2_init
theorem dX5_init_0 : decode cX5_init 0 = .ok (.aload_n 0, 1) := by decide +kernel
theorem dX5_init_1 : decode cX5_init 1 = .ok (.invokespecial 1, 3) := by decide +kernel
theorem dX5_init_4 : decode cX5_init 4 = .ok (.aload_n 0, 1) := by decide +kernel
theorem dX5_init_5 : decode cX5_init 5 = .ok (.new 7, 3) := by decide +kernel
theorem dX5_init_8 : decode cX5_init 8 = .ok (.dup, 1) := by decide +kernel
theorem dX5_init_9 : decode cX5_init 9 = .ok (.invokespecial 9, 3) := by decide +kernel
theorem dX5_init_12 : decode cX5_init 12 = .ok (.putfield 10, 3) := by decide +kernel
theorem dX5_init_15 : decode cX5_init 15 = .ok (.aload_n 0, 1) := by decide +kernel
theorem dX5_init_16 : decode cX5_init 16 = .ok (.ldc2_w 16, 3) := by decide +kernel
theorem dX5_init_19 : decode cX5_init 19 = .ok (.putfield 18, 3) := by decide +kernel
theorem dX5_init_22 : decode cX5_init 22 = .ok (.return_, 1) := by decide +kernel
set_option maxRecDepth 20000 in
theorem ggX5_begin_X2_empty : GoodIn wsX5_begin wsX2_empty := goodIn_r _ [8, 9, 10, 13, 14, 15] (by decide +kernel) (by decide +kernel)
set_option maxRecDepth 20000 in
theorem gX5_begin_X2_empty : GoodIn wsX5_begin (wsV RX5 22 RX2 yX2_empty wsX2_empty) := goodIn_app (goodIn_of _ (by decide +kernel)) ggX5_begin_X2_empty
theorem dX5_begin_0 : decode cX5_begin 0 = .ok (.aload_n 0, 1) := by decide +kernel
theorem dX5_begin_1 : decode cX5_begin 1 = .ok (.getfield 10, 3) := by decide +kernel
theorem dX5_begin_4 : decode cX5_begin 4 = .ok (.invokevirtual 22, 3) := by decide +kernel
theorem dX5_begin_7 : decode cX5_begin 7 = .ok (.aload_n 0, 1) := by decide +kernel
theorem dX5_begin_8 : decode cX5_begin 8 = .ok (.ldc2_w 16, 3) := by decide +kernel
theorem dX5_begin_11 : decode cX5_begin 11 = .ok (.putfield 18, 3) := by decide +kernel
theorem dX5_begin_14 : decode cX5_begin 14 = .ok (.return_, 1) := by decide +kernel
set_option maxRecDepth 20000 in
theorem ggX5_hear_X5_nearestEven : GoodIn wsX5_hear wsX5_nearestEven := goodIn_r _ [11, 12] (by decide +kernel) (by decide +kernel)
set_option maxRecDepth 20000 in
theorem gX5_hear_X5_nearestEven : GoodIn wsX5_hear (va_wsS RX5 25 yX5_nearestEven wsX5_nearestEven) := goodIn_app (goodIn_of _ (by decide +kernel)) ggX5_hear_X5_nearestEven
set_option maxRecDepth 20000 in
theorem ggX5_hear_X2_put : GoodIn wsX5_hear wsX2_put := goodIn_r _ [17, 18, 19, 20, 28, 29, 30] (by decide +kernel) (by decide +kernel)
set_option maxRecDepth 20000 in
theorem gX5_hear_X2_put : GoodIn wsX5_hear (wsV RX5 35 RX2 yX2_put wsX2_put) := goodIn_app (goodIn_of _ (by decide +kernel)) ggX5_hear_X2_put
set_option maxRecDepth 20000 in
theorem ggX5_hear_X5_held : GoodIn wsX5_hear wsX5_held := goodIn_r _ [23, 24, 25] (by decide +kernel) (by decide +kernel)
set_option maxRecDepth 20000 in
theorem gX5_hear_X5_held : GoodIn wsX5_hear (va_wsS RX5 41 yX5_held wsX5_held) := goodIn_app (goodIn_of _ (by decide +kernel)) ggX5_hear_X5_held
theorem dX5_hear_0 : decode cX5_hear 0 = .ok (.iconst 1, 1) := by decide +kernel
theorem dX5_hear_1 : decode cX5_hear 1 = .ok (.iload_n 1, 1) := by decide +kernel
theorem dX5_hear_2 : decode cX5_hear 2 = .ok (.i2d, 1) := by decide +kernel
theorem dX5_hear_3 : decode cX5_hear 3 = .ok (.aload_n 0, 1) := by decide +kernel
theorem dX5_hear_4 : decode cX5_hear 4 = .ok (.getfield 18, 3) := by decide +kernel
theorem dX5_hear_7 : decode cX5_hear 7 = .ok (.ddiv, 1) := by decide +kernel
theorem dX5_hear_8 : decode cX5_hear 8 = .ok (.invokestatic 25, 3) := by decide +kernel
theorem dX5_hear_11 : decode cX5_hear 11 = .ok (.invokestatic 29, 3) := by decide +kernel
theorem dX5_hear_14 : decode cX5_hear 14 = .ok (.istore_n 2, 1) := by decide +kernel
theorem dX5_hear_15 : decode cX5_hear 15 = .ok (.iconst 1, 1) := by decide +kernel
theorem dX5_hear_16 : decode cX5_hear 16 = .ok (.istore_n 3, 1) := by decide +kernel
theorem dX5_hear_17 : decode cX5_hear 17 = .ok (.iload_n 3, 1) := by decide +kernel
theorem dX5_hear_18 : decode cX5_hear 18 = .ok (.iload_n 2, 1) := by decide +kernel
theorem dX5_hear_19 : decode cX5_hear 19 = .ok (.if_icmp .ge 17, 3) := by decide +kernel
theorem dX5_hear_22 : decode cX5_hear 22 = .ok (.aload_n 0, 1) := by decide +kernel
theorem dX5_hear_23 : decode cX5_hear 23 = .ok (.getfield 10, 3) := by decide +kernel
theorem dX5_hear_26 : decode cX5_hear 26 = .ok (.iconst 0, 1) := by decide +kernel
theorem dX5_hear_27 : decode cX5_hear 27 = .ok (.invokevirtual 35, 3) := by decide +kernel
theorem dX5_hear_30 : decode cX5_hear 30 = .ok (.iinc 3 1, 3) := by decide +kernel
theorem dX5_hear_33 : decode cX5_hear 33 = .ok (.goto (-16), 3) := by decide +kernel
theorem dX5_hear_36 : decode cX5_hear 36 = .ok (.aload_n 0, 1) := by decide +kernel
theorem dX5_hear_37 : decode cX5_hear 37 = .ok (.getfield 10, 3) := by decide +kernel
theorem dX5_hear_40 : decode cX5_hear 40 = .ok (.iconst 1, 1) := by decide +kernel
theorem dX5_hear_41 : decode cX5_hear 41 = .ok (.invokevirtual 35, 3) := by decide +kernel
theorem dX5_hear_44 : decode cX5_hear 44 = .ok (.aload_n 0, 1) := by decide +kernel
theorem dX5_hear_45 : decode cX5_hear 45 = .ok (.aload_n 0, 1) := by decide +kernel
theorem dX5_hear_46 : decode cX5_hear 46 = .ok (.getfield 18, 3) := by decide +kernel
theorem dX5_hear_49 : decode cX5_hear 49 = .ok (.iload_n 1, 1) := by decide +kernel
theorem dX5_hear_50 : decode cX5_hear 50 = .ok (.i2d, 1) := by decide +kernel
theorem dX5_hear_51 : decode cX5_hear 51 = .ok (.iload_n 2, 1) := by decide +kernel
theorem dX5_hear_52 : decode cX5_hear 52 = .ok (.i2d, 1) := by decide +kernel
theorem dX5_hear_53 : decode cX5_hear 53 = .ok (.ddiv, 1) := by decide +kernel
theorem dX5_hear_54 : decode cX5_hear 54 = .ok (.aload_n 0, 1) := by decide +kernel
theorem dX5_hear_55 : decode cX5_hear 55 = .ok (.getfield 18, 3) := by decide +kernel
theorem dX5_hear_58 : decode cX5_hear 58 = .ok (.dsub, 1) := by decide +kernel
theorem dX5_hear_59 : decode cX5_hear 59 = .ok (.ldc2_w 39, 3) := by decide +kernel
theorem dX5_hear_62 : decode cX5_hear 62 = .ok (.dmul, 1) := by decide +kernel
theorem dX5_hear_63 : decode cX5_hear 63 = .ok (.dadd, 1) := by decide +kernel
theorem dX5_hear_64 : decode cX5_hear 64 = .ok (.invokestatic 41, 3) := by decide +kernel
theorem dX5_hear_67 : decode cX5_hear 67 = .ok (.putfield 18, 3) := by decide +kernel
theorem dX5_hear_70 : decode cX5_hear 70 = .ok (.return_, 1) := by decide +kernel
theorem dX5_nearestEven_0 : decode cX5_nearestEven 0 = .ok (.dload_n 0, 1) := by decide +kernel
theorem dX5_nearestEven_1 : decode cX5_nearestEven 1 = .ok (.d2i, 1) := by decide +kernel
theorem dX5_nearestEven_2 : decode cX5_nearestEven 2 = .ok (.istore_n 2, 1) := by decide +kernel
theorem dX5_nearestEven_3 : decode cX5_nearestEven 3 = .ok (.dload_n 0, 1) := by decide +kernel
theorem dX5_nearestEven_4 : decode cX5_nearestEven 4 = .ok (.iload_n 2, 1) := by decide +kernel
theorem dX5_nearestEven_5 : decode cX5_nearestEven 5 = .ok (.i2d, 1) := by decide +kernel
theorem dX5_nearestEven_6 : decode cX5_nearestEven 6 = .ok (.dsub, 1) := by decide +kernel
theorem dX5_nearestEven_7 : decode cX5_nearestEven 7 = .ok (.dstore_n 3, 1) := by decide +kernel
theorem dX5_nearestEven_8 : decode cX5_nearestEven 8 = .ok (.dload_n 3, 1) := by decide +kernel
theorem dX5_nearestEven_9 : decode cX5_nearestEven 9 = .ok (.ldc2_w 45, 3) := by decide +kernel
theorem dX5_nearestEven_12 : decode cX5_nearestEven 12 = .ok (.dcmp .l, 1) := by decide +kernel
theorem dX5_nearestEven_13 : decode cX5_nearestEven 13 = .ok (.ifCond .gt 17, 3) := by decide +kernel
theorem dX5_nearestEven_16 : decode cX5_nearestEven 16 = .ok (.dload_n 3, 1) := by decide +kernel
theorem dX5_nearestEven_17 : decode cX5_nearestEven 17 = .ok (.ldc2_w 45, 3) := by decide +kernel
theorem dX5_nearestEven_20 : decode cX5_nearestEven 20 = .ok (.dcmp .l, 1) := by decide +kernel
theorem dX5_nearestEven_21 : decode cX5_nearestEven 21 = .ok (.ifCond .ne 13, 3) := by decide +kernel
theorem dX5_nearestEven_24 : decode cX5_nearestEven 24 = .ok (.iload_n 2, 1) := by decide +kernel
theorem dX5_nearestEven_25 : decode cX5_nearestEven 25 = .ok (.iconst 2, 1) := by decide +kernel
theorem dX5_nearestEven_26 : decode cX5_nearestEven 26 = .ok (.irem, 1) := by decide +kernel
theorem dX5_nearestEven_27 : decode cX5_nearestEven 27 = .ok (.ifCond .eq 7, 3) := by decide +kernel
theorem dX5_nearestEven_30 : decode cX5_nearestEven 30 = .ok (.iconst 1, 1) := by decide +kernel
theorem dX5_nearestEven_31 : decode cX5_nearestEven 31 = .ok (.goto 4, 3) := by decide +kernel
theorem dX5_nearestEven_34 : decode cX5_nearestEven 34 = .ok (.iconst 0, 1) := by decide +kernel
theorem dX5_nearestEven_35 : decode cX5_nearestEven 35 = .ok (.istore 5, 2) := by decide +kernel
theorem dX5_nearestEven_37 : decode cX5_nearestEven 37 = .ok (.iload 5, 2) := by decide +kernel
theorem dX5_nearestEven_39 : decode cX5_nearestEven 39 = .ok (.ifCond .eq 9, 3) := by decide +kernel
theorem dX5_nearestEven_42 : decode cX5_nearestEven 42 = .ok (.iload_n 2, 1) := by decide +kernel
theorem dX5_nearestEven_43 : decode cX5_nearestEven 43 = .ok (.iconst 1, 1) := by decide +kernel
theorem dX5_nearestEven_44 : decode cX5_nearestEven 44 = .ok (.iadd, 1) := by decide +kernel
theorem dX5_nearestEven_45 : decode cX5_nearestEven 45 = .ok (.goto 4, 3) := by decide +kernel
theorem dX5_nearestEven_48 : decode cX5_nearestEven 48 = .ok (.iload_n 2, 1) := by decide +kernel
theorem dX5_nearestEven_49 : decode cX5_nearestEven 49 = .ok (.ireturn, 1) := by decide +kernel
theorem dX5_held_0 : decode cX5_held 0 = .ok (.dload_n 0, 1) := by decide +kernel
theorem dX5_held_1 : decode cX5_held 1 = .ok (.ldc2_w 47, 3) := by decide +kernel
theorem dX5_held_4 : decode cX5_held 4 = .ok (.dcmp .g, 1) := by decide +kernel
theorem dX5_held_5 : decode cX5_held 5 = .ok (.ifCond .ge 7, 3) := by decide +kernel
theorem dX5_held_8 : decode cX5_held 8 = .ok (.ldc2_w 47, 3) := by decide +kernel
theorem dX5_held_11 : decode cX5_held 11 = .ok (.dreturn, 1) := by decide +kernel
theorem dX5_held_12 : decode cX5_held 12 = .ok (.dload_n 0, 1) := by decide +kernel
theorem dX5_held_13 : decode cX5_held 13 = .ok (.ldc2_w 49, 3) := by decide +kernel
theorem dX5_held_16 : decode cX5_held 16 = .ok (.dcmp .l, 1) := by decide +kernel
theorem dX5_held_17 : decode cX5_held 17 = .ok (.ifCond .le 9, 3) := by decide +kernel
theorem dX5_held_20 : decode cX5_held 20 = .ok (.ldc2_w 49, 3) := by decide +kernel
theorem dX5_held_23 : decode cX5_held 23 = .ok (.goto 4, 3) := by decide +kernel
theorem dX5_held_26 : decode cX5_held 26 = .ok (.dload_n 0, 1) := by decide +kernel
theorem dX5_held_27 : decode cX5_held 27 = .ok (.dreturn, 1) := by decide +kernel
