theorem dX3_init_0 : decode cX3_init 0 = .ok (.aload_n 0, 1) := by decide +kernel
theorem dX3_init_1 : decode cX3_init 1 = .ok (.invokespecial 3, 3) := by decide +kernel
theorem dX3_init_4 : decode cX3_init 4 = .ok (.aload_n 0, 1) := by decide +kernel
theorem dX3_init_5 : decode cX3_init 5 = .ok (.sipush 400, 3) := by decide +kernel
theorem dX3_init_8 : decode cX3_init 8 = .ok (.newarray .int, 2) := by decide +kernel
theorem dX3_init_10 : decode cX3_init 10 = .ok (.putfield 9, 3) := by decide +kernel
theorem dX3_init_13 : decode cX3_init 13 = .ok (.aload_n 0, 1) := by decide +kernel
theorem dX3_init_14 : decode cX3_init 14 = .ok (.sipush 400, 3) := by decide +kernel
theorem dX3_init_17 : decode cX3_init 17 = .ok (.newarray .int, 2) := by decide +kernel
theorem dX3_init_19 : decode cX3_init 19 = .ok (.putfield 15, 3) := by decide +kernel
theorem dX3_init_22 : decode cX3_init 22 = .ok (.aload_n 0, 1) := by decide +kernel
theorem dX3_init_23 : decode cX3_init 23 = .ok (.sipush 400, 3) := by decide +kernel
theorem dX3_init_26 : decode cX3_init 26 = .ok (.newarray .boolean, 2) := by decide +kernel
theorem dX3_init_28 : decode cX3_init 28 = .ok (.putfield 18, 3) := by decide +kernel
theorem dX3_init_31 : decode cX3_init 31 = .ok (.aload_n 0, 1) := by decide +kernel
theorem dX3_init_32 : decode cX3_init 32 = .ok (.sipush 400, 3) := by decide +kernel
theorem dX3_init_35 : decode cX3_init 35 = .ok (.newarray .int, 2) := by decide +kernel
theorem dX3_init_37 : decode cX3_init 37 = .ok (.putfield 22, 3) := by decide +kernel
theorem dX3_init_40 : decode cX3_init 40 = .ok (.aload_n 0, 1) := by decide +kernel
theorem dX3_init_41 : decode cX3_init 41 = .ok (.iconst 0, 1) := by decide +kernel
theorem dX3_init_42 : decode cX3_init 42 = .ok (.putfield 25, 3) := by decide +kernel
theorem dX3_init_45 : decode cX3_init 45 = .ok (.aload_n 0, 1) := by decide +kernel
theorem dX3_init_46 : decode cX3_init 46 = .ok (.iconst 0, 1) := by decide +kernel
theorem dX3_init_47 : decode cX3_init 47 = .ok (.putfield 29, 3) := by decide +kernel
theorem dX3_init_50 : decode cX3_init 50 = .ok (.return_, 1) := by decide +kernel
theorem dX3_empty_0 : decode cX3_empty 0 = .ok (.aload_n 0, 1) := by decide +kernel
theorem dX3_empty_1 : decode cX3_empty 1 = .ok (.iconst 0, 1) := by decide +kernel
theorem dX3_empty_2 : decode cX3_empty 2 = .ok (.putfield 25, 3) := by decide +kernel
theorem dX3_empty_5 : decode cX3_empty 5 = .ok (.aload_n 0, 1) := by decide +kernel
theorem dX3_empty_6 : decode cX3_empty 6 = .ok (.iconst 0, 1) := by decide +kernel
theorem dX3_empty_7 : decode cX3_empty 7 = .ok (.putfield 29, 3) := by decide +kernel
theorem dX3_empty_10 : decode cX3_empty 10 = .ok (.return_, 1) := by decide +kernel
theorem dX3_hasRoomFor_0 : decode cX3_hasRoomFor 0 = .ok (.iload_n 1, 1) := by decide +kernel
theorem dX3_hasRoomFor_1 : decode cX3_hasRoomFor 1 = .ok (.sipush 400, 3) := by decide +kernel
theorem dX3_hasRoomFor_4 : decode cX3_hasRoomFor 4 = .ok (.aload_n 0, 1) := by decide +kernel
theorem dX3_hasRoomFor_5 : decode cX3_hasRoomFor 5 = .ok (.getfield 25, 3) := by decide +kernel
theorem dX3_hasRoomFor_8 : decode cX3_hasRoomFor 8 = .ok (.isub, 1) := by decide +kernel
theorem dX3_hasRoomFor_9 : decode cX3_hasRoomFor 9 = .ok (.if_icmp .gt 7, 3) := by decide +kernel
theorem dX3_hasRoomFor_12 : decode cX3_hasRoomFor 12 = .ok (.iconst 1, 1) := by decide +kernel
theorem dX3_hasRoomFor_13 : decode cX3_hasRoomFor 13 = .ok (.goto 4, 3) := by decide +kernel
theorem dX3_hasRoomFor_16 : decode cX3_hasRoomFor 16 = .ok (.iconst 0, 1) := by decide +kernel
theorem dX3_hasRoomFor_17 : decode cX3_hasRoomFor 17 = .ok (.ireturn, 1) := by decide +kernel
theorem dX3_hasPlace_0 : decode cX3_hasPlace 0 = .ok (.iload_n 1, 1) := by decide +kernel
theorem dX3_hasPlace_1 : decode cX3_hasPlace 1 = .ok (.ifCond .lt 22, 3) := by decide +kernel
theorem dX3_hasPlace_4 : decode cX3_hasPlace 4 = .ok (.iload_n 1, 1) := by decide +kernel
theorem dX3_hasPlace_5 : decode cX3_hasPlace 5 = .ok (.aload_n 0, 1) := by decide +kernel
theorem dX3_hasPlace_6 : decode cX3_hasPlace 6 = .ok (.getfield 25, 3) := by decide +kernel
theorem dX3_hasPlace_9 : decode cX3_hasPlace 9 = .ok (.if_icmp .ge 14, 3) := by decide +kernel
theorem dX3_hasPlace_12 : decode cX3_hasPlace 12 = .ok (.iload_n 1, 1) := by decide +kernel
theorem dX3_hasPlace_13 : decode cX3_hasPlace 13 = .ok (.sipush 400, 3) := by decide +kernel
theorem dX3_hasPlace_16 : decode cX3_hasPlace 16 = .ok (.if_icmp .ge 7, 3) := by decide +kernel
theorem dX3_hasPlace_19 : decode cX3_hasPlace 19 = .ok (.iconst 1, 1) := by decide +kernel
theorem dX3_hasPlace_20 : decode cX3_hasPlace 20 = .ok (.goto 4, 3) := by decide +kernel
theorem dX3_hasPlace_23 : decode cX3_hasPlace 23 = .ok (.iconst 0, 1) := by decide +kernel
theorem dX3_hasPlace_24 : decode cX3_hasPlace 24 = .ok (.ireturn, 1) := by decide +kernel
theorem dX3_put_0 : decode cX3_put 0 = .ok (.aload_n 0, 1) := by decide +kernel
theorem dX3_put_1 : decode cX3_put 1 = .ok (.getfield 25, 3) := by decide +kernel
theorem dX3_put_4 : decode cX3_put 4 = .ok (.ifCond .lt 13, 3) := by decide +kernel
theorem dX3_put_7 : decode cX3_put 7 = .ok (.aload_n 0, 1) := by decide +kernel
theorem dX3_put_8 : decode cX3_put 8 = .ok (.getfield 25, 3) := by decide +kernel
theorem dX3_put_11 : decode cX3_put 11 = .ok (.sipush 400, 3) := by decide +kernel
theorem dX3_put_14 : decode cX3_put 14 = .ok (.if_icmp .lt 4, 3) := by decide +kernel
theorem dX3_put_17 : decode cX3_put 17 = .ok (.return_, 1) := by decide +kernel
theorem dX3_put_18 : decode cX3_put 18 = .ok (.aload_n 0, 1) := by decide +kernel
theorem dX3_put_19 : decode cX3_put 19 = .ok (.getfield 9, 3) := by decide +kernel
theorem dX3_put_22 : decode cX3_put 22 = .ok (.aload_n 0, 1) := by decide +kernel
theorem dX3_put_23 : decode cX3_put 23 = .ok (.getfield 25, 3) := by decide +kernel
theorem dX3_put_26 : decode cX3_put 26 = .ok (.iload_n 1, 1) := by decide +kernel
theorem dX3_put_27 : decode cX3_put 27 = .ok (.iastore, 1) := by decide +kernel
theorem dX3_put_28 : decode cX3_put 28 = .ok (.aload_n 0, 1) := by decide +kernel
theorem dX3_put_29 : decode cX3_put 29 = .ok (.getfield 15, 3) := by decide +kernel
theorem dX3_put_32 : decode cX3_put 32 = .ok (.aload_n 0, 1) := by decide +kernel
theorem dX3_put_33 : decode cX3_put 33 = .ok (.getfield 25, 3) := by decide +kernel
theorem dX3_put_36 : decode cX3_put 36 = .ok (.iload_n 2, 1) := by decide +kernel
theorem dX3_put_37 : decode cX3_put 37 = .ok (.iastore, 1) := by decide +kernel
theorem dX3_put_38 : decode cX3_put 38 = .ok (.aload_n 0, 1) := by decide +kernel
theorem dX3_put_39 : decode cX3_put 39 = .ok (.getfield 18, 3) := by decide +kernel
theorem dX3_put_42 : decode cX3_put 42 = .ok (.aload_n 0, 1) := by decide +kernel
theorem dX3_put_43 : decode cX3_put 43 = .ok (.getfield 25, 3) := by decide +kernel
theorem dX3_put_46 : decode cX3_put 46 = .ok (.iconst 0, 1) := by decide +kernel
theorem dX3_put_47 : decode cX3_put 47 = .ok (.bastore, 1) := by decide +kernel
theorem dX3_put_48 : decode cX3_put 48 = .ok (.aload_n 0, 1) := by decide +kernel
theorem dX3_put_49 : decode cX3_put 49 = .ok (.getfield 22, 3) := by decide +kernel
theorem dX3_put_52 : decode cX3_put 52 = .ok (.aload_n 0, 1) := by decide +kernel
theorem dX3_put_53 : decode cX3_put 53 = .ok (.getfield 25, 3) := by decide +kernel
theorem dX3_put_56 : decode cX3_put 56 = .ok (.iconst 0, 1) := by decide +kernel
theorem dX3_put_57 : decode cX3_put 57 = .ok (.iastore, 1) := by decide +kernel
theorem dX3_put_58 : decode cX3_put 58 = .ok (.aload_n 0, 1) := by decide +kernel
theorem dX3_put_59 : decode cX3_put 59 = .ok (.dup, 1) := by decide +kernel
theorem dX3_put_60 : decode cX3_put 60 = .ok (.getfield 25, 3) := by decide +kernel
theorem dX3_put_63 : decode cX3_put 63 = .ok (.iconst 1, 1) := by decide +kernel
theorem dX3_put_64 : decode cX3_put 64 = .ok (.iadd, 1) := by decide +kernel
theorem dX3_put_65 : decode cX3_put 65 = .ok (.putfield 25, 3) := by decide +kernel
theorem dX3_put_68 : decode cX3_put 68 = .ok (.return_, 1) := by decide +kernel
set_option maxRecDepth 20000 in
theorem ggX3_putMark_X3_putDigits : GoodIn wsX3_putMark wsX3_putDigits := goodIn_r _ [6, 7, 8, 9, 5, 10, 11, 12, 13, 14, 15, 16, 17, 18, 19, 20, 21] (by decide +kernel) (by decide +kernel)
set_option maxRecDepth 20000 in
theorem gX3_putMark_X3_putDigits : GoodIn wsX3_putMark (wsV RX3 32 RX3 yX3_putDigits wsX3_putDigits) := goodIn_app (goodIn_of _ (by decide +kernel)) ggX3_putMark_X3_putDigits
theorem dX3_putMark_0 : decode cX3_putMark 0 = .ok (.aload_n 0, 1) := by decide +kernel
theorem dX3_putMark_1 : decode cX3_putMark 1 = .ok (.sipush 529, 3) := by decide +kernel
theorem dX3_putMark_4 : decode cX3_putMark 4 = .ok (.bipush 10, 2) := by decide +kernel
theorem dX3_putMark_6 : decode cX3_putMark 6 = .ok (.iload_n 1, 1) := by decide +kernel
theorem dX3_putMark_7 : decode cX3_putMark 7 = .ok (.invokevirtual 32, 3) := by decide +kernel
theorem dX3_putMark_10 : decode cX3_putMark 10 = .ok (.aload_n 0, 1) := by decide +kernel
theorem dX3_putMark_11 : decode cX3_putMark 11 = .ok (.iconst 0, 1) := by decide +kernel
theorem dX3_putMark_12 : decode cX3_putMark 12 = .ok (.putfield 29, 3) := by decide +kernel
theorem dX3_putMark_15 : decode cX3_putMark 15 = .ok (.return_, 1) := by decide +kernel
set_option maxRecDepth 20000 in
theorem ggX3_putByte_X0_groupOf : GoodIn wsX3_putByte wsX0_groupOf := goodIn_r _ [5, 6] (by decide +kernel) (by decide +kernel)
set_option maxRecDepth 20000 in
theorem gX3_putByte_X0_groupOf : GoodIn wsX3_putByte (va_wsS RX3 38 yX0_groupOf wsX0_groupOf) := goodIn_app (goodIn_of _ (by decide +kernel)) ggX3_putByte_X0_groupOf
set_option maxRecDepth 20000 in
theorem ggX3_putByte_X3_putDigits : GoodIn wsX3_putByte wsX3_putDigits := goodIn_r _ [11, 12, 13, 14, 10, 15, 16, 17, 18, 19, 20, 21, 22, 23, 24, 25, 26] (by decide +kernel) (by decide +kernel)
set_option maxRecDepth 20000 in
theorem gX3_putByte_X3_putDigits : GoodIn wsX3_putByte (wsV RX3 32 RX3 yX3_putDigits wsX3_putDigits) := goodIn_app (goodIn_of _ (by decide +kernel)) ggX3_putByte_X3_putDigits
set_option maxRecDepth 20000 in
theorem ggX3_putByte_X3_put : GoodIn wsX3_putByte wsX3_put := goodIn_r _ [15, 16, 17, 18, 19, 20, 21, 22, 23, 24, 25, 26] (by decide +kernel) (by decide +kernel)
set_option maxRecDepth 20000 in
theorem gX3_putByte_X3_put : GoodIn wsX3_putByte (wsV RX3 42 RX3 yX3_put wsX3_put) := goodIn_app (goodIn_of _ (by decide +kernel)) ggX3_putByte_X3_put
theorem dX3_putByte_0 : decode cX3_putByte 0 = .ok (.iload_n 1, 1) := by decide +kernel
theorem dX3_putByte_1 : decode cX3_putByte 1 = .ok (.iconst 2, 1) := by decide +kernel
theorem dX3_putByte_2 : decode cX3_putByte 2 = .ok (.if_icmp .ne 30, 3) := by decide +kernel
theorem dX3_putByte_5 : decode cX3_putByte 5 = .ok (.aload_n 0, 1) := by decide +kernel
theorem dX3_putByte_6 : decode cX3_putByte 6 = .ok (.iload_n 2, 1) := by decide +kernel
theorem dX3_putByte_7 : decode cX3_putByte 7 = .ok (.bipush 16, 2) := by decide +kernel
theorem dX3_putByte_9 : decode cX3_putByte 9 = .ok (.idiv, 1) := by decide +kernel
theorem dX3_putByte_10 : decode cX3_putByte 10 = .ok (.invokestatic 38, 3) := by decide +kernel
theorem dX3_putByte_13 : decode cX3_putByte 13 = .ok (.iconst 5, 1) := by decide +kernel
theorem dX3_putByte_14 : decode cX3_putByte 14 = .ok (.iload_n 3, 1) := by decide +kernel
theorem dX3_putByte_15 : decode cX3_putByte 15 = .ok (.invokevirtual 32, 3) := by decide +kernel
theorem dX3_putByte_18 : decode cX3_putByte 18 = .ok (.aload_n 0, 1) := by decide +kernel
theorem dX3_putByte_19 : decode cX3_putByte 19 = .ok (.iload_n 2, 1) := by decide +kernel
theorem dX3_putByte_20 : decode cX3_putByte 20 = .ok (.bipush 16, 2) := by decide +kernel
theorem dX3_putByte_22 : decode cX3_putByte 22 = .ok (.irem, 1) := by decide +kernel
theorem dX3_putByte_23 : decode cX3_putByte 23 = .ok (.invokestatic 38, 3) := by decide +kernel
theorem dX3_putByte_26 : decode cX3_putByte 26 = .ok (.iconst 5, 1) := by decide +kernel
theorem dX3_putByte_27 : decode cX3_putByte 27 = .ok (.iload_n 3, 1) := by decide +kernel
theorem dX3_putByte_28 : decode cX3_putByte 28 = .ok (.invokevirtual 32, 3) := by decide +kernel
theorem dX3_putByte_31 : decode cX3_putByte 31 = .ok (.return_, 1) := by decide +kernel
theorem dX3_putByte_32 : decode cX3_putByte 32 = .ok (.bipush 7, 2) := by decide +kernel
theorem dX3_putByte_34 : decode cX3_putByte 34 = .ok (.istore 4, 2) := by decide +kernel
theorem dX3_putByte_36 : decode cX3_putByte 36 = .ok (.iload 4, 2) := by decide +kernel
theorem dX3_putByte_38 : decode cX3_putByte 38 = .ok (.ifCond .lt 69, 3) := by decide +kernel
theorem dX3_putByte_41 : decode cX3_putByte 41 = .ok (.iload_n 2, 1) := by decide +kernel
theorem dX3_putByte_42 : decode cX3_putByte 42 = .ok (.iload 4, 2) := by decide +kernel
theorem dX3_putByte_44 : decode cX3_putByte 44 = .ok (.ishr, 1) := by decide +kernel
theorem dX3_putByte_45 : decode cX3_putByte 45 = .ok (.iconst 1, 1) := by decide +kernel
theorem dX3_putByte_46 : decode cX3_putByte 46 = .ok (.iand, 1) := by decide +kernel
theorem dX3_putByte_47 : decode cX3_putByte 47 = .ok (.istore 5, 2) := by decide +kernel
theorem dX3_putByte_49 : decode cX3_putByte 49 = .ok (.iload_n 1, 1) := by decide +kernel
theorem dX3_putByte_50 : decode cX3_putByte 50 = .ok (.iconst 1, 1) := by decide +kernel
theorem dX3_putByte_51 : decode cX3_putByte 51 = .ok (.if_icmp .ne 15, 3) := by decide +kernel
theorem dX3_putByte_54 : decode cX3_putByte 54 = .ok (.iload 5, 2) := by decide +kernel
theorem dX3_putByte_56 : decode cX3_putByte 56 = .ok (.ifCond .ne 14, 3) := by decide +kernel
theorem dX3_putByte_59 : decode cX3_putByte 59 = .ok (.aload_n 0, 1) := by decide +kernel
theorem dX3_putByte_60 : decode cX3_putByte 60 = .ok (.getfield 29, 3) := by decide +kernel
theorem dX3_putByte_63 : decode cX3_putByte 63 = .ok (.ifCond .ne 7, 3) := by decide +kernel
theorem dX3_putByte_66 : decode cX3_putByte 66 = .ok (.iconst 1, 1) := by decide +kernel
theorem dX3_putByte_67 : decode cX3_putByte 67 = .ok (.goto 4, 3) := by decide +kernel
theorem dX3_putByte_70 : decode cX3_putByte 70 = .ok (.iconst 0, 1) := by decide +kernel
theorem dX3_putByte_71 : decode cX3_putByte 71 = .ok (.istore 6, 2) := by decide +kernel
theorem dX3_putByte_73 : decode cX3_putByte 73 = .ok (.aload_n 0, 1) := by decide +kernel
theorem dX3_putByte_74 : decode cX3_putByte 74 = .ok (.iload 6, 2) := by decide +kernel
theorem dX3_putByte_76 : decode cX3_putByte 76 = .ok (.ifCond .eq 7, 3) := by decide +kernel
theorem dX3_putByte_79 : decode cX3_putByte 79 = .ok (.iconst 1, 1) := by decide +kernel
theorem dX3_putByte_80 : decode cX3_putByte 80 = .ok (.goto 4, 3) := by decide +kernel
theorem dX3_putByte_83 : decode cX3_putByte 83 = .ok (.iconst 0, 1) := by decide +kernel
theorem dX3_putByte_84 : decode cX3_putByte 84 = .ok (.iload_n 3, 1) := by decide +kernel
theorem dX3_putByte_85 : decode cX3_putByte 85 = .ok (.invokevirtual 42, 3) := by decide +kernel
theorem dX3_putByte_88 : decode cX3_putByte 88 = .ok (.aload_n 0, 1) := by decide +kernel
theorem dX3_putByte_89 : decode cX3_putByte 89 = .ok (.iload 5, 2) := by decide +kernel
theorem dX3_putByte_91 : decode cX3_putByte 91 = .ok (.iload_n 3, 1) := by decide +kernel
theorem dX3_putByte_92 : decode cX3_putByte 92 = .ok (.invokevirtual 42, 3) := by decide +kernel
theorem dX3_putByte_95 : decode cX3_putByte 95 = .ok (.aload_n 0, 1) := by decide +kernel
theorem dX3_putByte_96 : decode cX3_putByte 96 = .ok (.iload 5, 2) := by decide +kernel
theorem dX3_putByte_98 : decode cX3_putByte 98 = .ok (.putfield 29, 3) := by decide +kernel
theorem dX3_putByte_101 : decode cX3_putByte 101 = .ok (.iinc 4 (-1), 3) := by decide +kernel
theorem dX3_putByte_104 : decode cX3_putByte 104 = .ok (.goto (-68), 3) := by decide +kernel
theorem dX3_putByte_107 : decode cX3_putByte 107 = .ok (.return_, 1) := by decide +kernel
set_option maxRecDepth 20000 in
theorem ggX3_putSector_X3_putMark : GoodIn wsX3_putSector wsX3_putMark := goodIn_r _ [5, 6, 7, 8, 9, 4, 10, 11, 12, 13, 14, 15, 16, 17, 18, 19, 29, 30, 31, 32, 33, 34] (by decide +kernel) (by decide +kernel)
set_option maxRecDepth 20000 in
theorem gX3_putSector_X3_putMark : GoodIn wsX3_putSector (wsV RX3 46 RX3 yX3_putMark wsX3_putMark) := goodIn_app (goodIn_of _ (by decide +kernel)) ggX3_putSector_X3_putMark
set_option maxRecDepth 20000 in
theorem ggX3_putSector_X3_putByte : GoodIn wsX3_putSector wsX3_putByte := goodIn_r _ [23, 6, 24, 25, 26, 27, 28, 7, 8, 9, 4, 10, 11, 12, 13, 14, 15, 16, 17, 18, 19, 29, 30, 31, 32, 33, 34] (by decide +kernel) (by decide +kernel)
set_option maxRecDepth 20000 in
theorem gX3_putSector_X3_putByte : GoodIn wsX3_putSector (wsV RX3 50 RX3 yX3_putByte wsX3_putByte) := goodIn_app (goodIn_of _ (by decide +kernel)) ggX3_putSector_X3_putByte
set_option maxRecDepth 20000 in
theorem ggX3_putSector_X3_put : GoodIn wsX3_putSector wsX3_put := goodIn_r _ [14, 15, 16, 17, 18, 19, 29, 30, 31, 32, 33, 34] (by decide +kernel) (by decide +kernel)
set_option maxRecDepth 20000 in
theorem gX3_putSector_X3_put : GoodIn wsX3_putSector (wsV RX3 42 RX3 yX3_put wsX3_put) := goodIn_app (goodIn_of _ (by decide +kernel)) ggX3_putSector_X3_put
theorem dX3_putSector_0 : decode cX3_putSector 0 = .ok (.iload_n 2, 1) := by decide +kernel
theorem dX3_putSector_1 : decode cX3_putSector 1 = .ok (.iload_n 3, 1) := by decide +kernel
theorem dX3_putSector_2 : decode cX3_putSector 2 = .ok (.iadd, 1) := by decide +kernel
theorem dX3_putSector_3 : decode cX3_putSector 3 = .ok (.iload 5, 2) := by decide +kernel
theorem dX3_putSector_5 : decode cX3_putSector 5 = .ok (.ifCond .eq 7, 3) := by decide +kernel
theorem dX3_putSector_8 : decode cX3_putSector 8 = .ok (.iconst 0, 1) := by decide +kernel
theorem dX3_putSector_9 : decode cX3_putSector 9 = .ok (.goto 4, 3) := by decide +kernel
theorem dX3_putSector_12 : decode cX3_putSector 12 = .ok (.iconst 1, 1) := by decide +kernel
theorem dX3_putSector_13 : decode cX3_putSector 13 = .ok (.iadd, 1) := by decide +kernel
theorem dX3_putSector_14 : decode cX3_putSector 14 = .ok (.istore 7, 2) := by decide +kernel
theorem dX3_putSector_16 : decode cX3_putSector 16 = .ok (.aload_n 0, 1) := by decide +kernel
theorem dX3_putSector_17 : decode cX3_putSector 17 = .ok (.iload 6, 2) := by decide +kernel
theorem dX3_putSector_19 : decode cX3_putSector 19 = .ok (.invokevirtual 46, 3) := by decide +kernel
theorem dX3_putSector_22 : decode cX3_putSector 22 = .ok (.aload_n 0, 1) := by decide +kernel
theorem dX3_putSector_23 : decode cX3_putSector 23 = .ok (.iload_n 1, 1) := by decide +kernel
theorem dX3_putSector_24 : decode cX3_putSector 24 = .ok (.iload_n 2, 1) := by decide +kernel
theorem dX3_putSector_25 : decode cX3_putSector 25 = .ok (.iload 6, 2) := by decide +kernel
theorem dX3_putSector_27 : decode cX3_putSector 27 = .ok (.invokevirtual 50, 3) := by decide +kernel
theorem dX3_putSector_30 : decode cX3_putSector 30 = .ok (.aload_n 0, 1) := by decide +kernel
theorem dX3_putSector_31 : decode cX3_putSector 31 = .ok (.iload_n 1, 1) := by decide +kernel
theorem dX3_putSector_32 : decode cX3_putSector 32 = .ok (.iload_n 3, 1) := by decide +kernel
theorem dX3_putSector_33 : decode cX3_putSector 33 = .ok (.iload 6, 2) := by decide +kernel
theorem dX3_putSector_35 : decode cX3_putSector 35 = .ok (.invokevirtual 50, 3) := by decide +kernel
theorem dX3_putSector_38 : decode cX3_putSector 38 = .ok (.iconst 0, 1) := by decide +kernel
theorem dX3_putSector_39 : decode cX3_putSector 39 = .ok (.istore 8, 2) := by decide +kernel
theorem dX3_putSector_41 : decode cX3_putSector 41 = .ok (.iload 8, 2) := by decide +kernel
theorem dX3_putSector_43 : decode cX3_putSector 43 = .ok (.iload_n 3, 1) := by decide +kernel
theorem dX3_putSector_44 : decode cX3_putSector 44 = .ok (.if_icmp .ge 39, 3) := by decide +kernel
theorem dX3_putSector_47 : decode cX3_putSector 47 = .ok (.iload 4, 2) := by decide +kernel
theorem dX3_putSector_49 : decode cX3_putSector 49 = .ok (.bipush 8, 2) := by decide +kernel
theorem dX3_putSector_51 : decode cX3_putSector 51 = .ok (.iload 8, 2) := by decide +kernel
theorem dX3_putSector_53 : decode cX3_putSector 53 = .ok (.imul, 1) := by decide +kernel
theorem dX3_putSector_54 : decode cX3_putSector 54 = .ok (.iushr, 1) := by decide +kernel
theorem dX3_putSector_55 : decode cX3_putSector 55 = .ok (.sipush 255, 3) := by decide +kernel
theorem dX3_putSector_58 : decode cX3_putSector 58 = .ok (.iand, 1) := by decide +kernel
theorem dX3_putSector_59 : decode cX3_putSector 59 = .ok (.istore 9, 2) := by decide +kernel
theorem dX3_putSector_61 : decode cX3_putSector 61 = .ok (.aload_n 0, 1) := by decide +kernel
theorem dX3_putSector_62 : decode cX3_putSector 62 = .ok (.iload_n 1, 1) := by decide +kernel
theorem dX3_putSector_63 : decode cX3_putSector 63 = .ok (.iload 9, 2) := by decide +kernel
theorem dX3_putSector_65 : decode cX3_putSector 65 = .ok (.iload 6, 2) := by decide +kernel
theorem dX3_putSector_67 : decode cX3_putSector 67 = .ok (.invokevirtual 50, 3) := by decide +kernel
theorem dX3_putSector_70 : decode cX3_putSector 70 = .ok (.iload 7, 2) := by decide +kernel
theorem dX3_putSector_72 : decode cX3_putSector 72 = .ok (.iload 9, 2) := by decide +kernel
theorem dX3_putSector_74 : decode cX3_putSector 74 = .ok (.iadd, 1) := by decide +kernel
theorem dX3_putSector_75 : decode cX3_putSector 75 = .ok (.istore 7, 2) := by decide +kernel
theorem dX3_putSector_77 : decode cX3_putSector 77 = .ok (.iinc 8 1, 3) := by decide +kernel
theorem dX3_putSector_80 : decode cX3_putSector 80 = .ok (.goto (-39), 3) := by decide +kernel
theorem dX3_putSector_83 : decode cX3_putSector 83 = .ok (.aload_n 0, 1) := by decide +kernel
theorem dX3_putSector_84 : decode cX3_putSector 84 = .ok (.iload_n 1, 1) := by decide +kernel
theorem dX3_putSector_85 : decode cX3_putSector 85 = .ok (.iload 7, 2) := by decide +kernel
theorem dX3_putSector_87 : decode cX3_putSector 87 = .ok (.sipush 255, 3) := by decide +kernel
theorem dX3_putSector_90 : decode cX3_putSector 90 = .ok (.iand, 1) := by decide +kernel
theorem dX3_putSector_91 : decode cX3_putSector 91 = .ok (.iload 6, 2) := by decide +kernel
theorem dX3_putSector_93 : decode cX3_putSector 93 = .ok (.invokevirtual 50, 3) := by decide +kernel
theorem dX3_putSector_96 : decode cX3_putSector 96 = .ok (.aload_n 0, 1) := by decide +kernel
theorem dX3_putSector_97 : decode cX3_putSector 97 = .ok (.iconst 1, 1) := by decide +kernel
theorem dX3_putSector_98 : decode cX3_putSector 98 = .ok (.iload 6, 2) := by decide +kernel
theorem dX3_putSector_100 : decode cX3_putSector 100 = .ok (.invokevirtual 42, 3) := by decide +kernel
theorem dX3_putSector_103 : decode cX3_putSector 103 = .ok (.return_, 1) := by decide +kernel
set_option maxRecDepth 20000 in
theorem ggX3_putDigits_X3_put : GoodIn wsX3_putDigits wsX3_put := goodIn_r _ [5, 6, 7, 8, 9, 10, 11, 12, 13, 14, 15, 16] (by decide +kernel) (by decide +kernel)
set_option maxRecDepth 20000 in
theorem gX3_putDigits_X3_put : GoodIn wsX3_putDigits (wsV RX3 42 RX3 yX3_put wsX3_put) := goodIn_app (goodIn_of _ (by decide +kernel)) ggX3_putDigits_X3_put
theorem dX3_putDigits_0 : decode cX3_putDigits 0 = .ok (.iload_n 2, 1) := by decide +kernel
theorem dX3_putDigits_1 : decode cX3_putDigits 1 = .ok (.iconst 1, 1) := by decide +kernel
theorem dX3_putDigits_2 : decode cX3_putDigits 2 = .ok (.isub, 1) := by decide +kernel
theorem dX3_putDigits_3 : decode cX3_putDigits 3 = .ok (.istore 4, 2) := by decide +kernel
theorem dX3_putDigits_5 : decode cX3_putDigits 5 = .ok (.iload 4, 2) := by decide +kernel
theorem dX3_putDigits_7 : decode cX3_putDigits 7 = .ok (.ifCond .lt 20, 3) := by decide +kernel
theorem dX3_putDigits_10 : decode cX3_putDigits 10 = .ok (.aload_n 0, 1) := by decide +kernel
theorem dX3_putDigits_11 : decode cX3_putDigits 11 = .ok (.iload_n 1, 1) := by decide +kernel
theorem dX3_putDigits_12 : decode cX3_putDigits 12 = .ok (.iload 4, 2) := by decide +kernel
theorem dX3_putDigits_14 : decode cX3_putDigits 14 = .ok (.ishr, 1) := by decide +kernel
theorem dX3_putDigits_15 : decode cX3_putDigits 15 = .ok (.iconst 1, 1) := by decide +kernel
theorem dX3_putDigits_16 : decode cX3_putDigits 16 = .ok (.iand, 1) := by decide +kernel
theorem dX3_putDigits_17 : decode cX3_putDigits 17 = .ok (.iload_n 3, 1) := by decide +kernel
theorem dX3_putDigits_18 : decode cX3_putDigits 18 = .ok (.invokevirtual 42, 3) := by decide +kernel
theorem dX3_putDigits_21 : decode cX3_putDigits 21 = .ok (.iinc 4 (-1), 3) := by decide +kernel
theorem dX3_putDigits_24 : decode cX3_putDigits 24 = .ok (.goto (-19), 3) := by decide +kernel
theorem dX3_putDigits_27 : decode cX3_putDigits 27 = .ok (.return_, 1) := by decide +kernel
set_option maxRecDepth 20000 in
theorem ggX3_bitAt_X3_hasPlace : GoodIn wsX3_bitAt wsX3_hasPlace := goodIn_r _ [6, 7, 8, 9, 10, 11, 12, 13] (by decide +kernel) (by decide +kernel)
set_option maxRecDepth 20000 in
theorem gX3_bitAt_X3_hasPlace : GoodIn wsX3_bitAt (wsV RX3 53 RX3 yX3_hasPlace wsX3_hasPlace) := goodIn_app (goodIn_of _ (by decide +kernel)) ggX3_bitAt_X3_hasPlace
theorem dX3_bitAt_0 : decode cX3_bitAt 0 = .ok (.aload_n 0, 1) := by decide +kernel
theorem dX3_bitAt_1 : decode cX3_bitAt 1 = .ok (.iload_n 1, 1) := by decide +kernel
theorem dX3_bitAt_2 : decode cX3_bitAt 2 = .ok (.invokevirtual 53, 3) := by decide +kernel
theorem dX3_bitAt_5 : decode cX3_bitAt 5 = .ok (.ifCond .eq 12, 3) := by decide +kernel
theorem dX3_bitAt_8 : decode cX3_bitAt 8 = .ok (.aload_n 0, 1) := by decide +kernel
theorem dX3_bitAt_9 : decode cX3_bitAt 9 = .ok (.getfield 9, 3) := by decide +kernel
theorem dX3_bitAt_12 : decode cX3_bitAt 12 = .ok (.iload_n 1, 1) := by decide +kernel
theorem dX3_bitAt_13 : decode cX3_bitAt 13 = .ok (.iaload, 1) := by decide +kernel
theorem dX3_bitAt_14 : decode cX3_bitAt 14 = .ok (.goto 4, 3) := by decide +kernel
theorem dX3_bitAt_17 : decode cX3_bitAt 17 = .ok (.iconst 0, 1) := by decide +kernel
theorem dX3_bitAt_18 : decode cX3_bitAt 18 = .ok (.ireturn, 1) := by decide +kernel
set_option maxRecDepth 20000 in
theorem ggX3_widthAt_X3_hasPlace : GoodIn wsX3_widthAt wsX3_hasPlace := goodIn_r _ [6, 7, 8, 9, 10, 11, 12, 13] (by decide +kernel) (by decide +kernel)
set_option maxRecDepth 20000 in
theorem gX3_widthAt_X3_hasPlace : GoodIn wsX3_widthAt (wsV RX3 53 RX3 yX3_hasPlace wsX3_hasPlace) := goodIn_app (goodIn_of _ (by decide +kernel)) ggX3_widthAt_X3_hasPlace
theorem dX3_widthAt_0 : decode cX3_widthAt 0 = .ok (.aload_n 0, 1) := by decide +kernel
theorem dX3_widthAt_1 : decode cX3_widthAt 1 = .ok (.iload_n 1, 1) := by decide +kernel
theorem dX3_widthAt_2 : decode cX3_widthAt 2 = .ok (.invokevirtual 53, 3) := by decide +kernel
theorem dX3_widthAt_5 : decode cX3_widthAt 5 = .ok (.ifCond .eq 12, 3) := by decide +kernel
theorem dX3_widthAt_8 : decode cX3_widthAt 8 = .ok (.aload_n 0, 1) := by decide +kernel
theorem dX3_widthAt_9 : decode cX3_widthAt 9 = .ok (.getfield 15, 3) := by decide +kernel
theorem dX3_widthAt_12 : decode cX3_widthAt 12 = .ok (.iload_n 1, 1) := by decide +kernel
theorem dX3_widthAt_13 : decode cX3_widthAt 13 = .ok (.iaload, 1) := by decide +kernel
theorem dX3_widthAt_14 : decode cX3_widthAt 14 = .ok (.goto 4, 3) := by decide +kernel
theorem dX3_widthAt_17 : decode cX3_widthAt 17 = .ok (.iconst 0, 1) := by decide +kernel
theorem dX3_widthAt_18 : decode cX3_widthAt 18 = .ok (.ireturn, 1) := by decide +kernel
set_option maxRecDepth 20000 in
theorem ggX3_isWeak_X3_hasPlace : GoodIn wsX3_isWeak wsX3_hasPlace := goodIn_r _ [6, 7, 8, 9, 10, 11, 12, 13] (by decide +kernel) (by decide +kernel)
set_option maxRecDepth 20000 in
theorem gX3_isWeak_X3_hasPlace : GoodIn wsX3_isWeak (wsV RX3 53 RX3 yX3_hasPlace wsX3_hasPlace) := goodIn_app (goodIn_of _ (by decide +kernel)) ggX3_isWeak_X3_hasPlace
theorem dX3_isWeak_0 : decode cX3_isWeak 0 = .ok (.aload_n 0, 1) := by decide +kernel
theorem dX3_isWeak_1 : decode cX3_isWeak 1 = .ok (.iload_n 1, 1) := by decide +kernel
theorem dX3_isWeak_2 : decode cX3_isWeak 2 = .ok (.invokevirtual 53, 3) := by decide +kernel
theorem dX3_isWeak_5 : decode cX3_isWeak 5 = .ok (.ifCond .eq 16, 3) := by decide +kernel
theorem dX3_isWeak_8 : decode cX3_isWeak 8 = .ok (.aload_n 0, 1) := by decide +kernel
theorem dX3_isWeak_9 : decode cX3_isWeak 9 = .ok (.getfield 18, 3) := by decide +kernel
theorem dX3_isWeak_12 : decode cX3_isWeak 12 = .ok (.iload_n 1, 1) := by decide +kernel
theorem dX3_isWeak_13 : decode cX3_isWeak 13 = .ok (.baload, 1) := by decide +kernel
theorem dX3_isWeak_14 : decode cX3_isWeak 14 = .ok (.ifCond .eq 7, 3) := by decide +kernel
theorem dX3_isWeak_17 : decode cX3_isWeak 17 = .ok (.iconst 1, 1) := by decide +kernel
theorem dX3_isWeak_18 : decode cX3_isWeak 18 = .ok (.goto 4, 3) := by decide +kernel
theorem dX3_isWeak_21 : decode cX3_isWeak 21 = .ok (.iconst 0, 1) := by decide +kernel
theorem dX3_isWeak_22 : decode cX3_isWeak 22 = .ok (.ireturn, 1) := by decide +kernel
set_option maxRecDepth 20000 in
theorem ggX3_setWeak_X3_hasPlace : GoodIn wsX3_setWeak wsX3_hasPlace := goodIn_r _ [6, 7, 8, 9, 10, 11, 12, 13] (by decide +kernel) (by decide +kernel)
set_option maxRecDepth 20000 in
theorem gX3_setWeak_X3_hasPlace : GoodIn wsX3_setWeak (wsV RX3 53 RX3 yX3_hasPlace wsX3_hasPlace) := goodIn_app (goodIn_of _ (by decide +kernel)) ggX3_setWeak_X3_hasPlace
theorem dX3_setWeak_0 : decode cX3_setWeak 0 = .ok (.aload_n 0, 1) := by decide +kernel
theorem dX3_setWeak_1 : decode cX3_setWeak 1 = .ok (.iload_n 1, 1) := by decide +kernel
theorem dX3_setWeak_2 : decode cX3_setWeak 2 = .ok (.invokevirtual 53, 3) := by decide +kernel
theorem dX3_setWeak_5 : decode cX3_setWeak 5 = .ok (.ifCond .eq 10, 3) := by decide +kernel
theorem dX3_setWeak_8 : decode cX3_setWeak 8 = .ok (.aload_n 0, 1) := by decide +kernel
theorem dX3_setWeak_9 : decode cX3_setWeak 9 = .ok (.getfield 18, 3) := by decide +kernel
theorem dX3_setWeak_12 : decode cX3_setWeak 12 = .ok (.iload_n 1, 1) := by decide +kernel
theorem dX3_setWeak_13 : decode cX3_setWeak 13 = .ok (.iload_n 2, 1) := by decide +kernel
theorem dX3_setWeak_14 : decode cX3_setWeak 14 = .ok (.bastore, 1) := by decide +kernel
theorem dX3_setWeak_15 : decode cX3_setWeak 15 = .ok (.return_, 1) := by decide +kernel
set_option maxRecDepth 20000 in
theorem ggX3_dirtAt_X3_hasPlace : GoodIn wsX3_dirtAt wsX3_hasPlace := goodIn_r _ [6, 7, 8, 9, 10, 11, 12, 13] (by decide +kernel) (by decide +kernel)
set_option maxRecDepth 20000 in
theorem gX3_dirtAt_X3_hasPlace : GoodIn wsX3_dirtAt (wsV RX3 53 RX3 yX3_hasPlace wsX3_hasPlace) := goodIn_app (goodIn_of _ (by decide +kernel)) ggX3_dirtAt_X3_hasPlace
theorem dX3_dirtAt_0 : decode cX3_dirtAt 0 = .ok (.aload_n 0, 1) := by decide +kernel
theorem dX3_dirtAt_1 : decode cX3_dirtAt 1 = .ok (.iload_n 1, 1) := by decide +kernel
theorem dX3_dirtAt_2 : decode cX3_dirtAt 2 = .ok (.invokevirtual 53, 3) := by decide +kernel
theorem dX3_dirtAt_5 : decode cX3_dirtAt 5 = .ok (.ifCond .eq 12, 3) := by decide +kernel
theorem dX3_dirtAt_8 : decode cX3_dirtAt 8 = .ok (.aload_n 0, 1) := by decide +kernel
theorem dX3_dirtAt_9 : decode cX3_dirtAt 9 = .ok (.getfield 22, 3) := by decide +kernel
theorem dX3_dirtAt_12 : decode cX3_dirtAt 12 = .ok (.iload_n 1, 1) := by decide +kernel
theorem dX3_dirtAt_13 : decode cX3_dirtAt 13 = .ok (.iaload, 1) := by decide +kernel
theorem dX3_dirtAt_14 : decode cX3_dirtAt 14 = .ok (.goto 4, 3) := by decide +kernel
theorem dX3_dirtAt_17 : decode cX3_dirtAt 17 = .ok (.iconst 0, 1) := by decide +kernel
theorem dX3_dirtAt_18 : decode cX3_dirtAt 18 = .ok (.ireturn, 1) := by decide +kernel
set_option maxRecDepth 20000 in
theorem ggX3_setDirt_X3_hasPlace : GoodIn wsX3_setDirt wsX3_hasPlace := goodIn_r _ [6, 7, 8, 9, 10, 11, 12, 13] (by decide +kernel) (by decide +kernel)
set_option maxRecDepth 20000 in
theorem gX3_setDirt_X3_hasPlace : GoodIn wsX3_setDirt (wsV RX3 53 RX3 yX3_hasPlace wsX3_hasPlace) := goodIn_app (goodIn_of _ (by decide +kernel)) ggX3_setDirt_X3_hasPlace
theorem dX3_setDirt_0 : decode cX3_setDirt 0 = .ok (.aload_n 0, 1) := by decide +kernel
theorem dX3_setDirt_1 : decode cX3_setDirt 1 = .ok (.iload_n 1, 1) := by decide +kernel
theorem dX3_setDirt_2 : decode cX3_setDirt 2 = .ok (.invokevirtual 53, 3) := by decide +kernel
theorem dX3_setDirt_5 : decode cX3_setDirt 5 = .ok (.ifCond .eq 10, 3) := by decide +kernel
theorem dX3_setDirt_8 : decode cX3_setDirt 8 = .ok (.aload_n 0, 1) := by decide +kernel
theorem dX3_setDirt_9 : decode cX3_setDirt 9 = .ok (.getfield 22, 3) := by decide +kernel
theorem dX3_setDirt_12 : decode cX3_setDirt 12 = .ok (.iload_n 1, 1) := by decide +kernel
theorem dX3_setDirt_13 : decode cX3_setDirt 13 = .ok (.iload_n 2, 1) := by decide +kernel
theorem dX3_setDirt_14 : decode cX3_setDirt 14 = .ok (.iastore, 1) := by decide +kernel
theorem dX3_setDirt_15 : decode cX3_setDirt 15 = .ok (.return_, 1) := by decide +kernel
set_option maxRecDepth 20000 in
theorem ggX3_dirtTold_X3_dirtAt : GoodIn wsX3_dirtTold wsX3_dirtAt := goodIn_r _ [5, 6, 7, 8, 9, 4, 10, 11, 12, 13, 14, 15, 16, 17] (by decide +kernel) (by decide +kernel)
set_option maxRecDepth 20000 in
theorem gX3_dirtTold_X3_dirtAt : GoodIn wsX3_dirtTold (wsV RX3 57 RX3 yX3_dirtAt wsX3_dirtAt) := goodIn_app (goodIn_of _ (by decide +kernel)) ggX3_dirtTold_X3_dirtAt
theorem dX3_dirtTold_0 : decode cX3_dirtTold 0 = .ok (.aload_n 0, 1) := by decide +kernel
theorem dX3_dirtTold_1 : decode cX3_dirtTold 1 = .ok (.iload_n 1, 1) := by decide +kernel
theorem dX3_dirtTold_2 : decode cX3_dirtTold 2 = .ok (.invokevirtual 57, 3) := by decide +kernel
theorem dX3_dirtTold_5 : decode cX3_dirtTold 5 = .ok (.istore_n 2, 1) := by decide +kernel
theorem dX3_dirtTold_6 : decode cX3_dirtTold 6 = .ok (.iload_n 2, 1) := by decide +kernel
theorem dX3_dirtTold_7 : decode cX3_dirtTold 7 = .ok (.ifCond .ne 5, 3) := by decide +kernel
theorem dX3_dirtTold_10 : decode cX3_dirtTold 10 = .ok (.iconst 0, 1) := by decide +kernel
theorem dX3_dirtTold_11 : decode cX3_dirtTold 11 = .ok (.ireturn, 1) := by decide +kernel
theorem dX3_dirtTold_12 : decode cX3_dirtTold 12 = .ok (.iload_n 2, 1) := by decide +kernel
theorem dX3_dirtTold_13 : decode cX3_dirtTold 13 = .ok (.iconst 3, 1) := by decide +kernel
theorem dX3_dirtTold_14 : decode cX3_dirtTold 14 = .ok (.if_icmp .ne 7, 3) := by decide +kernel
theorem dX3_dirtTold_17 : decode cX3_dirtTold 17 = .ok (.iconst 2, 1) := by decide +kernel
theorem dX3_dirtTold_18 : decode cX3_dirtTold 18 = .ok (.goto 4, 3) := by decide +kernel
theorem dX3_dirtTold_21 : decode cX3_dirtTold 21 = .ok (.iconst 1, 1) := by decide +kernel
theorem dX3_dirtTold_22 : decode cX3_dirtTold 22 = .ok (.ireturn, 1) := by decide +kernel
set_option maxRecDepth 20000 in
theorem ggX3_isDrawn_X3_isWeak : GoodIn wsX3_isDrawn wsX3_isWeak := goodIn_r _ [5, 6, 7, 8, 9, 4, 10, 11, 17, 18, 19, 20, 21, 22] (by decide +kernel) (by decide +kernel)
set_option maxRecDepth 20000 in
theorem gX3_isDrawn_X3_isWeak : GoodIn wsX3_isDrawn (wsV RX3 60 RX3 yX3_isWeak wsX3_isWeak) := goodIn_app (goodIn_of _ (by decide +kernel)) ggX3_isDrawn_X3_isWeak
set_option maxRecDepth 20000 in
theorem ggX3_isDrawn_X3_dirtAt : GoodIn wsX3_isDrawn wsX3_dirtAt := goodIn_r _ [15, 16, 7, 8, 9, 4, 10, 11, 17, 18, 19, 20, 21, 22] (by decide +kernel) (by decide +kernel)
set_option maxRecDepth 20000 in
theorem gX3_isDrawn_X3_dirtAt : GoodIn wsX3_isDrawn (wsV RX3 57 RX3 yX3_dirtAt wsX3_dirtAt) := goodIn_app (goodIn_of _ (by decide +kernel)) ggX3_isDrawn_X3_dirtAt
theorem dX3_isDrawn_0 : decode cX3_isDrawn 0 = .ok (.aload_n 0, 1) := by decide +kernel
theorem dX3_isDrawn_1 : decode cX3_isDrawn 1 = .ok (.iload_n 1, 1) := by decide +kernel
theorem dX3_isDrawn_2 : decode cX3_isDrawn 2 = .ok (.invokevirtual 60, 3) := by decide +kernel
theorem dX3_isDrawn_5 : decode cX3_isDrawn 5 = .ok (.ifCond .eq 15, 3) := by decide +kernel
theorem dX3_isDrawn_8 : decode cX3_isDrawn 8 = .ok (.aload_n 0, 1) := by decide +kernel
theorem dX3_isDrawn_9 : decode cX3_isDrawn 9 = .ok (.iload_n 1, 1) := by decide +kernel
theorem dX3_isDrawn_10 : decode cX3_isDrawn 10 = .ok (.invokevirtual 57, 3) := by decide +kernel
theorem dX3_isDrawn_13 : decode cX3_isDrawn 13 = .ok (.ifCond .ne 7, 3) := by decide +kernel
theorem dX3_isDrawn_16 : decode cX3_isDrawn 16 = .ok (.iconst 1, 1) := by decide +kernel
theorem dX3_isDrawn_17 : decode cX3_isDrawn 17 = .ok (.goto 4, 3) := by decide +kernel
theorem dX3_isDrawn_20 : decode cX3_isDrawn 20 = .ok (.iconst 0, 1) := by decide +kernel
theorem dX3_isDrawn_21 : decode cX3_isDrawn 21 = .ok (.ireturn, 1) := by decide +kernel
set_option maxRecDepth 20000 in
theorem ggX3_isPlainOne_X3_bitAt : GoodIn wsX3_isPlainOne wsX3_bitAt := goodIn_r _ [5, 6, 7, 8, 9, 4, 10, 11, 17, 18, 19, 20, 21, 22] (by decide +kernel) (by decide +kernel)
set_option maxRecDepth 20000 in
theorem gX3_isPlainOne_X3_bitAt : GoodIn wsX3_isPlainOne (wsV RX3 63 RX3 yX3_bitAt wsX3_bitAt) := goodIn_app (goodIn_of _ (by decide +kernel)) ggX3_isPlainOne_X3_bitAt
set_option maxRecDepth 20000 in
theorem ggX3_isPlainOne_X3_dirtAt : GoodIn wsX3_isPlainOne wsX3_dirtAt := goodIn_r _ [15, 16, 7, 8, 9, 4, 10, 11, 17, 18, 19, 20, 21, 22] (by decide +kernel) (by decide +kernel)
set_option maxRecDepth 20000 in
theorem gX3_isPlainOne_X3_dirtAt : GoodIn wsX3_isPlainOne (wsV RX3 57 RX3 yX3_dirtAt wsX3_dirtAt) := goodIn_app (goodIn_of _ (by decide +kernel)) ggX3_isPlainOne_X3_dirtAt
theorem dX3_isPlainOne_0 : decode cX3_isPlainOne 0 = .ok (.aload_n 0, 1) := by decide +kernel
theorem dX3_isPlainOne_1 : decode cX3_isPlainOne 1 = .ok (.iload_n 1, 1) := by decide +kernel
theorem dX3_isPlainOne_2 : decode cX3_isPlainOne 2 = .ok (.invokevirtual 63, 3) := by decide +kernel
theorem dX3_isPlainOne_5 : decode cX3_isPlainOne 5 = .ok (.iconst 1, 1) := by decide +kernel
theorem dX3_isPlainOne_6 : decode cX3_isPlainOne 6 = .ok (.if_icmp .ne 15, 3) := by decide +kernel
theorem dX3_isPlainOne_9 : decode cX3_isPlainOne 9 = .ok (.aload_n 0, 1) := by decide +kernel
theorem dX3_isPlainOne_10 : decode cX3_isPlainOne 10 = .ok (.iload_n 1, 1) := by decide +kernel
theorem dX3_isPlainOne_11 : decode cX3_isPlainOne 11 = .ok (.invokevirtual 57, 3) := by decide +kernel
theorem dX3_isPlainOne_14 : decode cX3_isPlainOne 14 = .ok (.ifCond .ne 7, 3) := by decide +kernel
theorem dX3_isPlainOne_17 : decode cX3_isPlainOne 17 = .ok (.iconst 1, 1) := by decide +kernel
theorem dX3_isPlainOne_18 : decode cX3_isPlainOne 18 = .ok (.goto 4, 3) := by decide +kernel
theorem dX3_isPlainOne_21 : decode cX3_isPlainOne 21 = .ok (.iconst 0, 1) := by decide +kernel
theorem dX3_isPlainOne_22 : decode cX3_isPlainOne 22 = .ok (.ireturn, 1) := by decide +kernel
set_option maxRecDepth 20000 in
theorem ggX3_soil_X3_dirtAt : GoodIn wsX3_soil wsX3_dirtAt := goodIn_r _ [10, 11, 12, 13, 14, 9, 15, 5, 20, 21, 22, 23, 24, 25] (by decide +kernel) (by decide +kernel)
set_option maxRecDepth 20000 in
theorem gX3_soil_X3_dirtAt : GoodIn wsX3_soil (wsV RX3 57 RX3 yX3_dirtAt wsX3_dirtAt) := goodIn_app (goodIn_of _ (by decide +kernel)) ggX3_soil_X3_dirtAt
set_option maxRecDepth 20000 in
theorem ggX3_soil_X3_setDirt : GoodIn wsX3_soil wsX3_setDirt := goodIn_r _ [19, 11, 12, 13, 14, 9, 15, 5, 20, 21, 22, 23, 24, 25] (by decide +kernel) (by decide +kernel)
set_option maxRecDepth 20000 in
theorem gX3_soil_X3_setDirt : GoodIn wsX3_soil (wsV RX3 72 RX3 yX3_setDirt wsX3_setDirt) := goodIn_app (goodIn_of _ (by decide +kernel)) ggX3_soil_X3_setDirt
theorem dX3_soil_0 : decode cX3_soil 0 = .ok (.iconst 0, 1) := by decide +kernel
theorem dX3_soil_1 : decode cX3_soil 1 = .ok (.iload_n 1, 1) := by decide +kernel
theorem dX3_soil_2 : decode cX3_soil 2 = .ok (.invokestatic 66, 3) := by decide +kernel
theorem dX3_soil_5 : decode cX3_soil 5 = .ok (.istore_n 3, 1) := by decide +kernel
theorem dX3_soil_6 : decode cX3_soil 6 = .ok (.iload_n 3, 1) := by decide +kernel
theorem dX3_soil_7 : decode cX3_soil 7 = .ok (.iload_n 2, 1) := by decide +kernel
theorem dX3_soil_8 : decode cX3_soil 8 = .ok (.if_icmp .gt 31, 3) := by decide +kernel
theorem dX3_soil_11 : decode cX3_soil 11 = .ok (.iload_n 3, 1) := by decide +kernel
theorem dX3_soil_12 : decode cX3_soil 12 = .ok (.aload_n 0, 1) := by decide +kernel
theorem dX3_soil_13 : decode cX3_soil 13 = .ok (.getfield 25, 3) := by decide +kernel
theorem dX3_soil_16 : decode cX3_soil 16 = .ok (.if_icmp .ge 23, 3) := by decide +kernel
theorem dX3_soil_19 : decode cX3_soil 19 = .ok (.aload_n 0, 1) := by decide +kernel
theorem dX3_soil_20 : decode cX3_soil 20 = .ok (.iload_n 3, 1) := by decide +kernel
theorem dX3_soil_21 : decode cX3_soil 21 = .ok (.invokevirtual 57, 3) := by decide +kernel
theorem dX3_soil_24 : decode cX3_soil 24 = .ok (.ifCond .ne 9, 3) := by decide +kernel
theorem dX3_soil_27 : decode cX3_soil 27 = .ok (.aload_n 0, 1) := by decide +kernel
theorem dX3_soil_28 : decode cX3_soil 28 = .ok (.iload_n 3, 1) := by decide +kernel
theorem dX3_soil_29 : decode cX3_soil 29 = .ok (.iconst 1, 1) := by decide +kernel
theorem dX3_soil_30 : decode cX3_soil 30 = .ok (.invokevirtual 72, 3) := by decide +kernel
theorem dX3_soil_33 : decode cX3_soil 33 = .ok (.iinc 3 1, 3) := by decide +kernel
theorem dX3_soil_36 : decode cX3_soil 36 = .ok (.goto (-30), 3) := by decide +kernel
theorem dX3_soil_39 : decode cX3_soil 39 = .ok (.return_, 1) := by decide +kernel
set_option maxRecDepth 20000 in
theorem ggX3_wipe_X3_dirtAt : GoodIn wsX3_wipe wsX3_dirtAt := goodIn_r _ [6, 7, 8, 9, 10, 5, 11, 1, 16, 17, 18, 19, 20, 21] (by decide +kernel) (by decide +kernel)
set_option maxRecDepth 20000 in
theorem gX3_wipe_X3_dirtAt : GoodIn wsX3_wipe (wsV RX3 57 RX3 yX3_dirtAt wsX3_dirtAt) := goodIn_app (goodIn_of _ (by decide +kernel)) ggX3_wipe_X3_dirtAt
set_option maxRecDepth 20000 in
theorem ggX3_wipe_X3_setDirt : GoodIn wsX3_wipe wsX3_setDirt := goodIn_r _ [15, 7, 8, 9, 10, 5, 11, 1, 16, 17, 18, 19, 20, 21] (by decide +kernel) (by decide +kernel)
set_option maxRecDepth 20000 in
theorem gX3_wipe_X3_setDirt : GoodIn wsX3_wipe (wsV RX3 72 RX3 yX3_setDirt wsX3_setDirt) := goodIn_app (goodIn_of _ (by decide +kernel)) ggX3_wipe_X3_setDirt
theorem dX3_wipe_0 : decode cX3_wipe 0 = .ok (.iconst 0, 1) := by decide +kernel
theorem dX3_wipe_1 : decode cX3_wipe 1 = .ok (.istore_n 1, 1) := by decide +kernel
theorem dX3_wipe_2 : decode cX3_wipe 2 = .ok (.iload_n 1, 1) := by decide +kernel
theorem dX3_wipe_3 : decode cX3_wipe 3 = .ok (.aload_n 0, 1) := by decide +kernel
theorem dX3_wipe_4 : decode cX3_wipe 4 = .ok (.getfield 25, 3) := by decide +kernel
theorem dX3_wipe_7 : decode cX3_wipe 7 = .ok (.if_icmp .ge 24, 3) := by decide +kernel
theorem dX3_wipe_10 : decode cX3_wipe 10 = .ok (.aload_n 0, 1) := by decide +kernel
theorem dX3_wipe_11 : decode cX3_wipe 11 = .ok (.iload_n 1, 1) := by decide +kernel
theorem dX3_wipe_12 : decode cX3_wipe 12 = .ok (.invokevirtual 57, 3) := by decide +kernel
theorem dX3_wipe_15 : decode cX3_wipe 15 = .ok (.iconst 3, 1) := by decide +kernel
theorem dX3_wipe_16 : decode cX3_wipe 16 = .ok (.if_icmp .eq 9, 3) := by decide +kernel
theorem dX3_wipe_19 : decode cX3_wipe 19 = .ok (.aload_n 0, 1) := by decide +kernel
theorem dX3_wipe_20 : decode cX3_wipe 20 = .ok (.iload_n 1, 1) := by decide +kernel
theorem dX3_wipe_21 : decode cX3_wipe 21 = .ok (.iconst 0, 1) := by decide +kernel
theorem dX3_wipe_22 : decode cX3_wipe 22 = .ok (.invokevirtual 72, 3) := by decide +kernel
theorem dX3_wipe_25 : decode cX3_wipe 25 = .ok (.iinc 1 1, 3) := by decide +kernel
theorem dX3_wipe_28 : decode cX3_wipe 28 = .ok (.goto (-26), 3) := by decide +kernel
theorem dX3_wipe_31 : decode cX3_wipe 31 = .ok (.return_, 1) := by decide +kernel
set_option maxRecDepth 20000 in
theorem ggX3_wear_X3_dirtAt : GoodIn wsX3_wear wsX3_dirtAt := goodIn_r _ [5, 6, 7, 8, 9, 4, 10, 11, 16, 17, 18, 19, 20, 21] (by decide +kernel) (by decide +kernel)
set_option maxRecDepth 20000 in
theorem gX3_wear_X3_dirtAt : GoodIn wsX3_wear (wsV RX3 57 RX3 yX3_dirtAt wsX3_dirtAt) := goodIn_app (goodIn_of _ (by decide +kernel)) ggX3_wear_X3_dirtAt
set_option maxRecDepth 20000 in
theorem ggX3_wear_X3_setDirt : GoodIn wsX3_wear wsX3_setDirt := goodIn_r _ [15, 6, 7, 8, 9, 4, 10, 11, 16, 17, 18, 19, 20, 21] (by decide +kernel) (by decide +kernel)
set_option maxRecDepth 20000 in
theorem gX3_wear_X3_setDirt : GoodIn wsX3_wear (wsV RX3 72 RX3 yX3_setDirt wsX3_setDirt) := goodIn_app (goodIn_of _ (by decide +kernel)) ggX3_wear_X3_setDirt
theorem dX3_wear_0 : decode cX3_wear 0 = .ok (.aload_n 0, 1) := by decide +kernel
theorem dX3_wear_1 : decode cX3_wear 1 = .ok (.iload_n 1, 1) := by decide +kernel
theorem dX3_wear_2 : decode cX3_wear 2 = .ok (.invokevirtual 57, 3) := by decide +kernel
theorem dX3_wear_5 : decode cX3_wear 5 = .ok (.istore_n 2, 1) := by decide +kernel
theorem dX3_wear_6 : decode cX3_wear 6 = .ok (.iload_n 2, 1) := by decide +kernel
theorem dX3_wear_7 : decode cX3_wear 7 = .ok (.iconst 1, 1) := by decide +kernel
theorem dX3_wear_8 : decode cX3_wear 8 = .ok (.if_icmp .ne 12, 3) := by decide +kernel
theorem dX3_wear_11 : decode cX3_wear 11 = .ok (.aload_n 0, 1) := by decide +kernel
theorem dX3_wear_12 : decode cX3_wear 12 = .ok (.iload_n 1, 1) := by decide +kernel
theorem dX3_wear_13 : decode cX3_wear 13 = .ok (.iconst 2, 1) := by decide +kernel
theorem dX3_wear_14 : decode cX3_wear 14 = .ok (.invokevirtual 72, 3) := by decide +kernel
theorem dX3_wear_17 : decode cX3_wear 17 = .ok (.goto 14, 3) := by decide +kernel
theorem dX3_wear_20 : decode cX3_wear 20 = .ok (.iload_n 2, 1) := by decide +kernel
theorem dX3_wear_21 : decode cX3_wear 21 = .ok (.iconst 2, 1) := by decide +kernel
theorem dX3_wear_22 : decode cX3_wear 22 = .ok (.if_icmp .ne 9, 3) := by decide +kernel
theorem dX3_wear_25 : decode cX3_wear 25 = .ok (.aload_n 0, 1) := by decide +kernel
theorem dX3_wear_26 : decode cX3_wear 26 = .ok (.iload_n 1, 1) := by decide +kernel
theorem dX3_wear_27 : decode cX3_wear 27 = .ok (.iconst 3, 1) := by decide +kernel
theorem dX3_wear_28 : decode cX3_wear 28 = .ok (.invokevirtual 72, 3) := by decide +kernel
theorem dX3_wear_31 : decode cX3_wear 31 = .ok (.return_, 1) := by decide +kernel
set_option maxRecDepth 20000 in
theorem ggX3_countOf_X3_dirtTold : GoodIn wsX3_countOf wsX3_dirtTold := goodIn_r _ [6, 7, 8, 9, 5, 10, 11, 12, 13, 14, 15, 1, 16, 17, 18, 19, 20, 21] (by decide +kernel) (by decide +kernel)
set_option maxRecDepth 20000 in
theorem gX3_countOf_X3_dirtTold : GoodIn wsX3_countOf (wsV RX3 75 RX3 yX3_dirtTold wsX3_dirtTold) := goodIn_app (goodIn_of _ (by decide +kernel)) ggX3_countOf_X3_dirtTold
theorem dX3_countOf_0 : decode cX3_countOf 0 = .ok (.iconst 0, 1) := by decide +kernel
theorem dX3_countOf_1 : decode cX3_countOf 1 = .ok (.istore_n 2, 1) := by decide +kernel
theorem dX3_countOf_2 : decode cX3_countOf 2 = .ok (.iconst 0, 1) := by decide +kernel
theorem dX3_countOf_3 : decode cX3_countOf 3 = .ok (.istore_n 3, 1) := by decide +kernel
theorem dX3_countOf_4 : decode cX3_countOf 4 = .ok (.iload_n 3, 1) := by decide +kernel
theorem dX3_countOf_5 : decode cX3_countOf 5 = .ok (.aload_n 0, 1) := by decide +kernel
theorem dX3_countOf_6 : decode cX3_countOf 6 = .ok (.getfield 25, 3) := by decide +kernel
theorem dX3_countOf_9 : decode cX3_countOf 9 = .ok (.if_icmp .ge 21, 3) := by decide +kernel
theorem dX3_countOf_12 : decode cX3_countOf 12 = .ok (.aload_n 0, 1) := by decide +kernel
theorem dX3_countOf_13 : decode cX3_countOf 13 = .ok (.iload_n 3, 1) := by decide +kernel
theorem dX3_countOf_14 : decode cX3_countOf 14 = .ok (.invokevirtual 75, 3) := by decide +kernel
theorem dX3_countOf_17 : decode cX3_countOf 17 = .ok (.iload_n 1, 1) := by decide +kernel
theorem dX3_countOf_18 : decode cX3_countOf 18 = .ok (.if_icmp .ne 6, 3) := by decide +kernel
theorem dX3_countOf_21 : decode cX3_countOf 21 = .ok (.iinc 2 1, 3) := by decide +kernel
theorem dX3_countOf_24 : decode cX3_countOf 24 = .ok (.iinc 3 1, 3) := by decide +kernel
theorem dX3_countOf_27 : decode cX3_countOf 27 = .ok (.goto (-23), 3) := by decide +kernel
theorem dX3_countOf_30 : decode cX3_countOf 30 = .ok (.iload_n 2, 1) := by decide +kernel
theorem dX3_countOf_31 : decode cX3_countOf 31 = .ok (.ireturn, 1) := by decide +kernel
set_option maxRecDepth 20000 in
theorem ggX3_widthsTogether_X3_widthAt : GoodIn wsX3_widthsTogether wsX3_widthAt := goodIn_r _ [6, 7, 8, 9, 10, 5, 11, 1, 12, 13, 14, 15, 16, 17] (by decide +kernel) (by decide +kernel)
set_option maxRecDepth 20000 in
theorem gX3_widthsTogether_X3_widthAt : GoodIn wsX3_widthsTogether (wsV RX3 78 RX3 yX3_widthAt wsX3_widthAt) := goodIn_app (goodIn_of _ (by decide +kernel)) ggX3_widthsTogether_X3_widthAt
theorem dX3_widthsTogether_0 : decode cX3_widthsTogether 0 = .ok (.iconst 0, 1) := by decide +kernel
theorem dX3_widthsTogether_1 : decode cX3_widthsTogether 1 = .ok (.istore_n 1, 1) := by decide +kernel
theorem dX3_widthsTogether_2 : decode cX3_widthsTogether 2 = .ok (.iconst 0, 1) := by decide +kernel
theorem dX3_widthsTogether_3 : decode cX3_widthsTogether 3 = .ok (.istore_n 2, 1) := by decide +kernel
theorem dX3_widthsTogether_4 : decode cX3_widthsTogether 4 = .ok (.iload_n 2, 1) := by decide +kernel
theorem dX3_widthsTogether_5 : decode cX3_widthsTogether 5 = .ok (.aload_n 0, 1) := by decide +kernel
theorem dX3_widthsTogether_6 : decode cX3_widthsTogether 6 = .ok (.getfield 25, 3) := by decide +kernel
theorem dX3_widthsTogether_9 : decode cX3_widthsTogether 9 = .ok (.if_icmp .ge 17, 3) := by decide +kernel
theorem dX3_widthsTogether_12 : decode cX3_widthsTogether 12 = .ok (.iload_n 1, 1) := by decide +kernel
theorem dX3_widthsTogether_13 : decode cX3_widthsTogether 13 = .ok (.aload_n 0, 1) := by decide +kernel
theorem dX3_widthsTogether_14 : decode cX3_widthsTogether 14 = .ok (.iload_n 2, 1) := by decide +kernel
theorem dX3_widthsTogether_15 : decode cX3_widthsTogether 15 = .ok (.invokevirtual 78, 3) := by decide +kernel
theorem dX3_widthsTogether_18 : decode cX3_widthsTogether 18 = .ok (.iadd, 1) := by decide +kernel
theorem dX3_widthsTogether_19 : decode cX3_widthsTogether 19 = .ok (.istore_n 1, 1) := by decide +kernel
theorem dX3_widthsTogether_20 : decode cX3_widthsTogether 20 = .ok (.iinc 2 1, 3) := by decide +kernel
theorem dX3_widthsTogether_23 : decode cX3_widthsTogether 23 = .ok (.goto (-19), 3) := by decide +kernel
theorem dX3_widthsTogether_26 : decode cX3_widthsTogether 26 = .ok (.iload_n 1, 1) := by decide +kernel
theorem dX3_widthsTogether_27 : decode cX3_widthsTogether 27 = .ok (.ireturn, 1) := by decide +kernel
