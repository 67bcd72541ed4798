theorem dX1_init_0 : decode cX1_init 0 = .ok (.aload_n 0, 1) := by decide +kernel
theorem dX1_init_1 : decode cX1_init 1 = .ok (.invokespecial 3, 3) := by decide +kernel
theorem dX1_init_4 : decode cX1_init 4 = .ok (.aload_n 0, 1) := by decide +kernel
theorem dX1_init_5 : decode cX1_init 5 = .ok (.bipush 72, 2) := by decide +kernel
theorem dX1_init_7 : decode cX1_init 7 = .ok (.newarray .int, 2) := by decide +kernel
theorem dX1_init_9 : decode cX1_init 9 = .ok (.putfield 11, 3) := by decide +kernel
theorem dX1_init_12 : decode cX1_init 12 = .ok (.aload_n 0, 1) := by decide +kernel
theorem dX1_init_13 : decode cX1_init 13 = .ok (.bipush 8, 2) := by decide +kernel
theorem dX1_init_15 : decode cX1_init 15 = .ok (.newarray .int, 2) := by decide +kernel
theorem dX1_init_17 : decode cX1_init 17 = .ok (.putfield 15, 3) := by decide +kernel
theorem dX1_init_20 : decode cX1_init 20 = .ok (.aload_n 0, 1) := by decide +kernel
theorem dX1_init_21 : decode cX1_init 21 = .ok (.iconst 0, 1) := by decide +kernel
theorem dX1_init_22 : decode cX1_init 22 = .ok (.putfield 18, 3) := by decide +kernel
theorem dX1_init_25 : decode cX1_init 25 = .ok (.aload_n 0, 1) := by decide +kernel
theorem dX1_init_26 : decode cX1_init 26 = .ok (.iconst 0, 1) := by decide +kernel
theorem dX1_init_27 : decode cX1_init 27 = .ok (.putfield 22, 3) := by decide +kernel
theorem dX1_init_30 : decode cX1_init 30 = .ok (.aload_n 0, 1) := by decide +kernel
theorem dX1_init_31 : decode cX1_init 31 = .ok (.iconst 0, 1) := by decide +kernel
theorem dX1_init_32 : decode cX1_init 32 = .ok (.putfield 25, 3) := by decide +kernel
theorem dX1_init_35 : decode cX1_init 35 = .ok (.aload_n 0, 1) := by decide +kernel
theorem dX1_init_36 : decode cX1_init 36 = .ok (.iconst 0, 1) := by decide +kernel
theorem dX1_init_37 : decode cX1_init 37 = .ok (.putfield 28, 3) := by decide +kernel
theorem dX1_init_40 : decode cX1_init 40 = .ok (.aload_n 0, 1) := by decide +kernel
theorem dX1_init_41 : decode cX1_init 41 = .ok (.iconst 0, 1) := by decide +kernel
theorem dX1_init_42 : decode cX1_init 42 = .ok (.putfield 32, 3) := by decide +kernel
theorem dX1_init_45 : decode cX1_init 45 = .ok (.aload_n 0, 1) := by decide +kernel
theorem dX1_init_46 : decode cX1_init 46 = .ok (.iconst 0, 1) := by decide +kernel
theorem dX1_init_47 : decode cX1_init 47 = .ok (.putfield 35, 3) := by decide +kernel
theorem dX1_init_50 : decode cX1_init 50 = .ok (.aload_n 0, 1) := by decide +kernel
theorem dX1_init_51 : decode cX1_init 51 = .ok (.iload_n 1, 1) := by decide +kernel
theorem dX1_init_52 : decode cX1_init 52 = .ok (.putfield 38, 3) := by decide +kernel
theorem dX1_init_55 : decode cX1_init 55 = .ok (.return_, 1) := by decide +kernel
set_option maxRecDepth 20000 in
theorem ggX1_look_X2_at : GoodIn wsX1_look wsX2_at := goodIn_r _ [10, 11, 12, 72, 73, 74] (by decide +kernel) (by decide +kernel)
set_option maxRecDepth 20000 in
theorem gX1_look_X2_at : GoodIn wsX1_look (wsV RX1 46 RX2 yX2_at wsX2_at) := goodIn_app (goodIn_of _ (by decide +kernel)) ggX1_look_X2_at
set_option maxRecDepth 20000 in
theorem ggX1_look_X1_noteBehindMark : GoodIn wsX1_look wsX1_noteBehindMark := goodIn_r _ [17, 18, 5, 3, 4, 1, 19, 20, 21, 22, 23, 24, 25, 26, 7, 8, 9, 10, 11, 12, 27, 28, 29, 30, 31, 32, 33, 16, 34, 35, 36, 37, 38, 39, 2, 63, 64, 65, 66, 67, 68, 69, 70, 71, 72, 73, 74] (by decide +kernel) (by decide +kernel)
set_option maxRecDepth 20000 in
theorem gX1_look_X1_noteBehindMark : GoodIn wsX1_look (wsV RX1 50 RX1 yX1_noteBehindMark wsX1_noteBehindMark) := goodIn_app (goodIn_of _ (by decide +kernel)) ggX1_look_X1_noteBehindMark
set_option maxRecDepth 20000 in
theorem ggX1_look_X1_planPlainCopy : GoodIn wsX1_look wsX1_planPlainCopy := goodIn_r _ [43, 44, 45, 1, 18, 46, 47, 48, 49, 16, 50, 51, 52, 53, 54, 35, 55, 56, 57, 58, 59, 60, 21, 61, 62, 20, 22, 63, 64, 65, 66, 67, 68, 69, 70, 71] (by decide +kernel) (by decide +kernel)
set_option maxRecDepth 20000 in
theorem gX1_look_X1_planPlainCopy : GoodIn wsX1_look (wsV RX1 54 RX1 yX1_planPlainCopy wsX1_planPlainCopy) := goodIn_app (goodIn_of _ (by decide +kernel)) ggX1_look_X1_planPlainCopy
theorem dX1_look_0 : decode cX1_look 0 = .ok (.aload_n 0, 1) := by decide +kernel
theorem dX1_look_1 : decode cX1_look 1 = .ok (.iconst 0, 1) := by decide +kernel
theorem dX1_look_2 : decode cX1_look 2 = .ok (.putfield 18, 3) := by decide +kernel
theorem dX1_look_5 : decode cX1_look 5 = .ok (.aload_n 0, 1) := by decide +kernel
theorem dX1_look_6 : decode cX1_look 6 = .ok (.iconst 0, 1) := by decide +kernel
theorem dX1_look_7 : decode cX1_look 7 = .ok (.putfield 22, 3) := by decide +kernel
theorem dX1_look_10 : decode cX1_look 10 = .ok (.aload_n 0, 1) := by decide +kernel
theorem dX1_look_11 : decode cX1_look 11 = .ok (.iconst 0, 1) := by decide +kernel
theorem dX1_look_12 : decode cX1_look 12 = .ok (.putfield 25, 3) := by decide +kernel
theorem dX1_look_15 : decode cX1_look 15 = .ok (.aload_n 0, 1) := by decide +kernel
theorem dX1_look_16 : decode cX1_look 16 = .ok (.iconst 0, 1) := by decide +kernel
theorem dX1_look_17 : decode cX1_look 17 = .ok (.putfield 28, 3) := by decide +kernel
theorem dX1_look_20 : decode cX1_look 20 = .ok (.iconst 0, 1) := by decide +kernel
theorem dX1_look_21 : decode cX1_look 21 = .ok (.istore_n 2, 1) := by decide +kernel
theorem dX1_look_22 : decode cX1_look 22 = .ok (.iconst 0, 1) := by decide +kernel
theorem dX1_look_23 : decode cX1_look 23 = .ok (.istore_n 3, 1) := by decide +kernel
theorem dX1_look_24 : decode cX1_look 24 = .ok (.iconst 0, 1) := by decide +kernel
theorem dX1_look_25 : decode cX1_look 25 = .ok (.istore 4, 2) := by decide +kernel
theorem dX1_look_27 : decode cX1_look 27 = .ok (.iload 4, 2) := by decide +kernel
theorem dX1_look_29 : decode cX1_look 29 = .ok (.aload_n 1, 1) := by decide +kernel
theorem dX1_look_30 : decode cX1_look 30 = .ok (.getfield 41, 3) := by decide +kernel
theorem dX1_look_33 : decode cX1_look 33 = .ok (.if_icmp .ge 61, 3) := by decide +kernel
theorem dX1_look_36 : decode cX1_look 36 = .ok (.aload_n 0, 1) := by decide +kernel
theorem dX1_look_37 : decode cX1_look 37 = .ok (.getfield 28, 3) := by decide +kernel
theorem dX1_look_40 : decode cX1_look 40 = .ok (.ifCond .ne 54, 3) := by decide +kernel
theorem dX1_look_43 : decode cX1_look 43 = .ok (.iconst 2, 1) := by decide +kernel
theorem dX1_look_44 : decode cX1_look 44 = .ok (.iload_n 3, 1) := by decide +kernel
theorem dX1_look_45 : decode cX1_look 45 = .ok (.imul, 1) := by decide +kernel
theorem dX1_look_46 : decode cX1_look 46 = .ok (.aload_n 1, 1) := by decide +kernel
theorem dX1_look_47 : decode cX1_look 47 = .ok (.iload 4, 2) := by decide +kernel
theorem dX1_look_49 : decode cX1_look 49 = .ok (.invokevirtual 46, 3) := by decide +kernel
theorem dX1_look_52 : decode cX1_look 52 = .ok (.iadd, 1) := by decide +kernel
theorem dX1_look_53 : decode cX1_look 53 = .ok (.sipush 1024, 3) := by decide +kernel
theorem dX1_look_56 : decode cX1_look 56 = .ok (.irem, 1) := by decide +kernel
theorem dX1_look_57 : decode cX1_look 57 = .ok (.istore_n 3, 1) := by decide +kernel
theorem dX1_look_58 : decode cX1_look 58 = .ok (.iload 4, 2) := by decide +kernel
theorem dX1_look_60 : decode cX1_look 60 = .ok (.iconst 1, 1) := by decide +kernel
theorem dX1_look_61 : decode cX1_look 61 = .ok (.iadd, 1) := by decide +kernel
theorem dX1_look_62 : decode cX1_look 62 = .ok (.bipush 10, 2) := by decide +kernel
theorem dX1_look_64 : decode cX1_look 64 = .ok (.isub, 1) := by decide +kernel
theorem dX1_look_65 : decode cX1_look 65 = .ok (.istore 5, 2) := by decide +kernel
theorem dX1_look_67 : decode cX1_look 67 = .ok (.iload 5, 2) := by decide +kernel
theorem dX1_look_69 : decode cX1_look 69 = .ok (.iload_n 2, 1) := by decide +kernel
theorem dX1_look_70 : decode cX1_look 70 = .ok (.if_icmp .lt 18, 3) := by decide +kernel
theorem dX1_look_73 : decode cX1_look 73 = .ok (.iload_n 3, 1) := by decide +kernel
theorem dX1_look_74 : decode cX1_look 74 = .ok (.sipush 529, 3) := by decide +kernel
theorem dX1_look_77 : decode cX1_look 77 = .ok (.if_icmp .ne 11, 3) := by decide +kernel
theorem dX1_look_80 : decode cX1_look 80 = .ok (.aload_n 0, 1) := by decide +kernel
theorem dX1_look_81 : decode cX1_look 81 = .ok (.aload_n 1, 1) := by decide +kernel
theorem dX1_look_82 : decode cX1_look 82 = .ok (.iload 5, 2) := by decide +kernel
theorem dX1_look_84 : decode cX1_look 84 = .ok (.invokevirtual 50, 3) := by decide +kernel
theorem dX1_look_87 : decode cX1_look 87 = .ok (.istore_n 2, 1) := by decide +kernel
theorem dX1_look_88 : decode cX1_look 88 = .ok (.iinc 4 1, 3) := by decide +kernel
theorem dX1_look_91 : decode cX1_look 91 = .ok (.goto (-64), 3) := by decide +kernel
theorem dX1_look_94 : decode cX1_look 94 = .ok (.aload_n 0, 1) := by decide +kernel
theorem dX1_look_95 : decode cX1_look 95 = .ok (.invokevirtual 54, 3) := by decide +kernel
theorem dX1_look_98 : decode cX1_look 98 = .ok (.return_, 1) := by decide +kernel
set_option maxRecDepth 20000 in
theorem ggX1_noteBehindMark_X0_cellsOfByte : GoodIn wsX1_noteBehindMark wsX0_cellsOfByte := goodIn_r _ [9] (by decide +kernel) (by decide +kernel)
set_option maxRecDepth 20000 in
theorem gX1_noteBehindMark_X0_cellsOfByte : GoodIn wsX1_noteBehindMark (va_wsS RX1 57 yX0_cellsOfByte wsX0_cellsOfByte) := goodIn_app (goodIn_of _ (by decide +kernel)) ggX1_noteBehindMark_X0_cellsOfByte
set_option maxRecDepth 20000 in
theorem ggX1_noteBehindMark_X0_byteAt : GoodIn wsX1_noteBehindMark wsX0_byteAt := goodIn_r _ [12, 13, 14, 15, 16, 17, 18, 19, 20, 21, 8, 22, 23, 44, 45, 46] (by decide +kernel) (by decide +kernel)
set_option maxRecDepth 20000 in
theorem gX1_noteBehindMark_X0_byteAt : GoodIn wsX1_noteBehindMark (va_wsS RX1 62 yX0_byteAt wsX0_byteAt) := goodIn_app (goodIn_of _ (by decide +kernel)) ggX1_noteBehindMark_X0_byteAt
set_option maxRecDepth 20000 in
theorem ggX1_noteBehindMark_X1_setValue : GoodIn wsX1_noteBehindMark wsX1_setValue := goodIn_r _ [28, 29, 35, 36, 37, 38, 39, 40, 41, 42, 43] (by decide +kernel) (by decide +kernel)
set_option maxRecDepth 20000 in
theorem gX1_noteBehindMark_X1_setValue : GoodIn wsX1_noteBehindMark (wsV RX1 66 RX1 yX1_setValue wsX1_setValue) := goodIn_app (goodIn_of _ (by decide +kernel)) ggX1_noteBehindMark_X1_setValue
set_option maxRecDepth 20000 in
theorem ggX1_noteBehindMark_X1_keepDataAndSum : GoodIn wsX1_noteBehindMark wsX1_keepDataAndSum := goodIn_r _ [33, 1, 5, 34, 6, 7, 8, 9, 10, 11, 12, 13, 14, 15, 16, 17, 18, 19, 20, 21, 22, 23, 24, 25, 26, 27, 28, 29, 35, 36, 37, 38, 39, 40, 41, 42, 43, 44, 45, 46] (by decide +kernel) (by decide +kernel)
set_option maxRecDepth 20000 in
theorem gX1_noteBehindMark_X1_keepDataAndSum : GoodIn wsX1_noteBehindMark (wsV RX1 70 RX1 yX1_keepDataAndSum wsX1_keepDataAndSum) := goodIn_app (goodIn_of _ (by decide +kernel)) ggX1_noteBehindMark_X1_keepDataAndSum
theorem dX1_noteBehindMark_0 : decode cX1_noteBehindMark 0 = .ok (.aload_n 0, 1) := by decide +kernel
theorem dX1_noteBehindMark_1 : decode cX1_noteBehindMark 1 = .ok (.getfield 38, 3) := by decide +kernel
theorem dX1_noteBehindMark_4 : decode cX1_noteBehindMark 4 = .ok (.invokestatic 57, 3) := by decide +kernel
theorem dX1_noteBehindMark_7 : decode cX1_noteBehindMark 7 = .ok (.istore_n 3, 1) := by decide +kernel
theorem dX1_noteBehindMark_8 : decode cX1_noteBehindMark 8 = .ok (.iload_n 2, 1) := by decide +kernel
theorem dX1_noteBehindMark_9 : decode cX1_noteBehindMark 9 = .ok (.bipush 10, 2) := by decide +kernel
theorem dX1_noteBehindMark_11 : decode cX1_noteBehindMark 11 = .ok (.iadd, 1) := by decide +kernel
theorem dX1_noteBehindMark_12 : decode cX1_noteBehindMark 12 = .ok (.istore 4, 2) := by decide +kernel
theorem dX1_noteBehindMark_14 : decode cX1_noteBehindMark 14 = .ok (.iload 4, 2) := by decide +kernel
theorem dX1_noteBehindMark_16 : decode cX1_noteBehindMark 16 = .ok (.iconst 2, 1) := by decide +kernel
theorem dX1_noteBehindMark_17 : decode cX1_noteBehindMark 17 = .ok (.iload_n 3, 1) := by decide +kernel
theorem dX1_noteBehindMark_18 : decode cX1_noteBehindMark 18 = .ok (.imul, 1) := by decide +kernel
theorem dX1_noteBehindMark_19 : decode cX1_noteBehindMark 19 = .ok (.iadd, 1) := by decide +kernel
theorem dX1_noteBehindMark_20 : decode cX1_noteBehindMark 20 = .ok (.aload_n 1, 1) := by decide +kernel
theorem dX1_noteBehindMark_21 : decode cX1_noteBehindMark 21 = .ok (.getfield 41, 3) := by decide +kernel
theorem dX1_noteBehindMark_24 : decode cX1_noteBehindMark 24 = .ok (.if_icmp .le 16, 3) := by decide +kernel
theorem dX1_noteBehindMark_27 : decode cX1_noteBehindMark 27 = .ok (.aload_n 0, 1) := by decide +kernel
theorem dX1_noteBehindMark_28 : decode cX1_noteBehindMark 28 = .ok (.dup, 1) := by decide +kernel
theorem dX1_noteBehindMark_29 : decode cX1_noteBehindMark 29 = .ok (.getfield 25, 3) := by decide +kernel
theorem dX1_noteBehindMark_32 : decode cX1_noteBehindMark 32 = .ok (.iconst 1, 1) := by decide +kernel
theorem dX1_noteBehindMark_33 : decode cX1_noteBehindMark 33 = .ok (.iadd, 1) := by decide +kernel
theorem dX1_noteBehindMark_34 : decode cX1_noteBehindMark 34 = .ok (.putfield 25, 3) := by decide +kernel
theorem dX1_noteBehindMark_37 : decode cX1_noteBehindMark 37 = .ok (.iload 4, 2) := by decide +kernel
theorem dX1_noteBehindMark_39 : decode cX1_noteBehindMark 39 = .ok (.ireturn, 1) := by decide +kernel
theorem dX1_noteBehindMark_40 : decode cX1_noteBehindMark 40 = .ok (.aload_n 1, 1) := by decide +kernel
theorem dX1_noteBehindMark_41 : decode cX1_noteBehindMark 41 = .ok (.iload 4, 2) := by decide +kernel
theorem dX1_noteBehindMark_43 : decode cX1_noteBehindMark 43 = .ok (.aload_n 0, 1) := by decide +kernel
theorem dX1_noteBehindMark_44 : decode cX1_noteBehindMark 44 = .ok (.getfield 38, 3) := by decide +kernel
theorem dX1_noteBehindMark_47 : decode cX1_noteBehindMark 47 = .ok (.invokestatic 62, 3) := by decide +kernel
theorem dX1_noteBehindMark_50 : decode cX1_noteBehindMark 50 = .ok (.istore 5, 2) := by decide +kernel
theorem dX1_noteBehindMark_52 : decode cX1_noteBehindMark 52 = .ok (.aload_n 1, 1) := by decide +kernel
theorem dX1_noteBehindMark_53 : decode cX1_noteBehindMark 53 = .ok (.iload 4, 2) := by decide +kernel
theorem dX1_noteBehindMark_55 : decode cX1_noteBehindMark 55 = .ok (.iload_n 3, 1) := by decide +kernel
theorem dX1_noteBehindMark_56 : decode cX1_noteBehindMark 56 = .ok (.iadd, 1) := by decide +kernel
theorem dX1_noteBehindMark_57 : decode cX1_noteBehindMark 57 = .ok (.aload_n 0, 1) := by decide +kernel
theorem dX1_noteBehindMark_58 : decode cX1_noteBehindMark 58 = .ok (.getfield 38, 3) := by decide +kernel
theorem dX1_noteBehindMark_61 : decode cX1_noteBehindMark 61 = .ok (.invokestatic 62, 3) := by decide +kernel
theorem dX1_noteBehindMark_64 : decode cX1_noteBehindMark 64 = .ok (.istore 6, 2) := by decide +kernel
theorem dX1_noteBehindMark_66 : decode cX1_noteBehindMark 66 = .ok (.iload 5, 2) := by decide +kernel
theorem dX1_noteBehindMark_68 : decode cX1_noteBehindMark 68 = .ok (.iconst (-1), 1) := by decide +kernel
theorem dX1_noteBehindMark_69 : decode cX1_noteBehindMark 69 = .ok (.if_icmp .eq 15, 3) := by decide +kernel
theorem dX1_noteBehindMark_72 : decode cX1_noteBehindMark 72 = .ok (.iload 6, 2) := by decide +kernel
theorem dX1_noteBehindMark_74 : decode cX1_noteBehindMark 74 = .ok (.iconst 1, 1) := by decide +kernel
theorem dX1_noteBehindMark_75 : decode cX1_noteBehindMark 75 = .ok (.if_icmp .lt 9, 3) := by decide +kernel
theorem dX1_noteBehindMark_78 : decode cX1_noteBehindMark 78 = .ok (.iload 6, 2) := by decide +kernel
theorem dX1_noteBehindMark_80 : decode cX1_noteBehindMark 80 = .ok (.iconst 4, 1) := by decide +kernel
theorem dX1_noteBehindMark_81 : decode cX1_noteBehindMark 81 = .ok (.if_icmp .le 16, 3) := by decide +kernel
theorem dX1_noteBehindMark_84 : decode cX1_noteBehindMark 84 = .ok (.aload_n 0, 1) := by decide +kernel
theorem dX1_noteBehindMark_85 : decode cX1_noteBehindMark 85 = .ok (.dup, 1) := by decide +kernel
theorem dX1_noteBehindMark_86 : decode cX1_noteBehindMark 86 = .ok (.getfield 25, 3) := by decide +kernel
theorem dX1_noteBehindMark_89 : decode cX1_noteBehindMark 89 = .ok (.iconst 1, 1) := by decide +kernel
theorem dX1_noteBehindMark_90 : decode cX1_noteBehindMark 90 = .ok (.iadd, 1) := by decide +kernel
theorem dX1_noteBehindMark_91 : decode cX1_noteBehindMark 91 = .ok (.putfield 25, 3) := by decide +kernel
theorem dX1_noteBehindMark_94 : decode cX1_noteBehindMark 94 = .ok (.iload 4, 2) := by decide +kernel
theorem dX1_noteBehindMark_96 : decode cX1_noteBehindMark 96 = .ok (.ireturn, 1) := by decide +kernel
theorem dX1_noteBehindMark_97 : decode cX1_noteBehindMark 97 = .ok (.iload 4, 2) := by decide +kernel
theorem dX1_noteBehindMark_99 : decode cX1_noteBehindMark 99 = .ok (.iload 6, 2) := by decide +kernel
theorem dX1_noteBehindMark_101 : decode cX1_noteBehindMark 101 = .ok (.iconst 3, 1) := by decide +kernel
theorem dX1_noteBehindMark_102 : decode cX1_noteBehindMark 102 = .ok (.iadd, 1) := by decide +kernel
theorem dX1_noteBehindMark_103 : decode cX1_noteBehindMark 103 = .ok (.iload_n 3, 1) := by decide +kernel
theorem dX1_noteBehindMark_104 : decode cX1_noteBehindMark 104 = .ok (.imul, 1) := by decide +kernel
theorem dX1_noteBehindMark_105 : decode cX1_noteBehindMark 105 = .ok (.iadd, 1) := by decide +kernel
theorem dX1_noteBehindMark_106 : decode cX1_noteBehindMark 106 = .ok (.istore 7, 2) := by decide +kernel
theorem dX1_noteBehindMark_108 : decode cX1_noteBehindMark 108 = .ok (.iload 7, 2) := by decide +kernel
theorem dX1_noteBehindMark_110 : decode cX1_noteBehindMark 110 = .ok (.aload_n 1, 1) := by decide +kernel
theorem dX1_noteBehindMark_111 : decode cX1_noteBehindMark 111 = .ok (.getfield 41, 3) := by decide +kernel
theorem dX1_noteBehindMark_114 : decode cX1_noteBehindMark 114 = .ok (.if_icmp .le 11, 3) := by decide +kernel
theorem dX1_noteBehindMark_117 : decode cX1_noteBehindMark 117 = .ok (.aload_n 0, 1) := by decide +kernel
theorem dX1_noteBehindMark_118 : decode cX1_noteBehindMark 118 = .ok (.iconst 1, 1) := by decide +kernel
theorem dX1_noteBehindMark_119 : decode cX1_noteBehindMark 119 = .ok (.putfield 28, 3) := by decide +kernel
theorem dX1_noteBehindMark_122 : decode cX1_noteBehindMark 122 = .ok (.iload 7, 2) := by decide +kernel
theorem dX1_noteBehindMark_124 : decode cX1_noteBehindMark 124 = .ok (.ireturn, 1) := by decide +kernel
theorem dX1_noteBehindMark_125 : decode cX1_noteBehindMark 125 = .ok (.aload_n 0, 1) := by decide +kernel
theorem dX1_noteBehindMark_126 : decode cX1_noteBehindMark 126 = .ok (.aload_n 0, 1) := by decide +kernel
theorem dX1_noteBehindMark_127 : decode cX1_noteBehindMark 127 = .ok (.getfield 18, 3) := by decide +kernel
theorem dX1_noteBehindMark_130 : decode cX1_noteBehindMark 130 = .ok (.iconst 0, 1) := by decide +kernel
theorem dX1_noteBehindMark_131 : decode cX1_noteBehindMark 131 = .ok (.iload_n 2, 1) := by decide +kernel
theorem dX1_noteBehindMark_132 : decode cX1_noteBehindMark 132 = .ok (.invokevirtual 66, 3) := by decide +kernel
theorem dX1_noteBehindMark_135 : decode cX1_noteBehindMark 135 = .ok (.aload_n 0, 1) := by decide +kernel
theorem dX1_noteBehindMark_136 : decode cX1_noteBehindMark 136 = .ok (.aload_n 0, 1) := by decide +kernel
theorem dX1_noteBehindMark_137 : decode cX1_noteBehindMark 137 = .ok (.getfield 18, 3) := by decide +kernel
theorem dX1_noteBehindMark_140 : decode cX1_noteBehindMark 140 = .ok (.iconst 1, 1) := by decide +kernel
theorem dX1_noteBehindMark_141 : decode cX1_noteBehindMark 141 = .ok (.iload 5, 2) := by decide +kernel
theorem dX1_noteBehindMark_143 : decode cX1_noteBehindMark 143 = .ok (.invokevirtual 66, 3) := by decide +kernel
theorem dX1_noteBehindMark_146 : decode cX1_noteBehindMark 146 = .ok (.aload_n 0, 1) := by decide +kernel
theorem dX1_noteBehindMark_147 : decode cX1_noteBehindMark 147 = .ok (.aload_n 0, 1) := by decide +kernel
theorem dX1_noteBehindMark_148 : decode cX1_noteBehindMark 148 = .ok (.getfield 18, 3) := by decide +kernel
theorem dX1_noteBehindMark_151 : decode cX1_noteBehindMark 151 = .ok (.iconst 2, 1) := by decide +kernel
theorem dX1_noteBehindMark_152 : decode cX1_noteBehindMark 152 = .ok (.iload 6, 2) := by decide +kernel
theorem dX1_noteBehindMark_154 : decode cX1_noteBehindMark 154 = .ok (.invokevirtual 66, 3) := by decide +kernel
theorem dX1_noteBehindMark_157 : decode cX1_noteBehindMark 157 = .ok (.aload_n 0, 1) := by decide +kernel
theorem dX1_noteBehindMark_158 : decode cX1_noteBehindMark 158 = .ok (.aload_n 1, 1) := by decide +kernel
theorem dX1_noteBehindMark_159 : decode cX1_noteBehindMark 159 = .ok (.iload 4, 2) := by decide +kernel
theorem dX1_noteBehindMark_161 : decode cX1_noteBehindMark 161 = .ok (.iconst 2, 1) := by decide +kernel
theorem dX1_noteBehindMark_162 : decode cX1_noteBehindMark 162 = .ok (.iload_n 3, 1) := by decide +kernel
theorem dX1_noteBehindMark_163 : decode cX1_noteBehindMark 163 = .ok (.imul, 1) := by decide +kernel
theorem dX1_noteBehindMark_164 : decode cX1_noteBehindMark 164 = .ok (.iadd, 1) := by decide +kernel
theorem dX1_noteBehindMark_165 : decode cX1_noteBehindMark 165 = .ok (.iload 5, 2) := by decide +kernel
theorem dX1_noteBehindMark_167 : decode cX1_noteBehindMark 167 = .ok (.iload 6, 2) := by decide +kernel
theorem dX1_noteBehindMark_169 : decode cX1_noteBehindMark 169 = .ok (.invokevirtual 70, 3) := by decide +kernel
theorem dX1_noteBehindMark_172 : decode cX1_noteBehindMark 172 = .ok (.iload 7, 2) := by decide +kernel
theorem dX1_noteBehindMark_174 : decode cX1_noteBehindMark 174 = .ok (.ireturn, 1) := by decide +kernel
set_option maxRecDepth 20000 in
theorem ggX1_keepDataAndSum_X0_cellsOfByte : GoodIn wsX1_keepDataAndSum wsX0_cellsOfByte := goodIn_r _ [7] (by decide +kernel) (by decide +kernel)
set_option maxRecDepth 20000 in
theorem gX1_keepDataAndSum_X0_cellsOfByte : GoodIn wsX1_keepDataAndSum (va_wsS RX1 57 yX0_cellsOfByte wsX0_cellsOfByte) := goodIn_app (goodIn_of _ (by decide +kernel)) ggX1_keepDataAndSum_X0_cellsOfByte
set_option maxRecDepth 20000 in
theorem ggX1_keepDataAndSum_X0_byteAt : GoodIn wsX1_keepDataAndSum wsX0_byteAt := goodIn_r _ [10, 11, 12, 13, 14, 15, 16, 17, 18, 19, 6, 20, 21, 37, 38, 39] (by decide +kernel) (by decide +kernel)
set_option maxRecDepth 20000 in
theorem gX1_keepDataAndSum_X0_byteAt : GoodIn wsX1_keepDataAndSum (va_wsS RX1 62 yX0_byteAt wsX0_byteAt) := goodIn_app (goodIn_of _ (by decide +kernel)) ggX1_keepDataAndSum_X0_byteAt
set_option maxRecDepth 20000 in
theorem ggX1_keepDataAndSum_X1_setValue : GoodIn wsX1_keepDataAndSum wsX1_setValue := goodIn_r _ [26, 27, 28, 29, 30, 31, 32, 33, 34, 35, 36] (by decide +kernel) (by decide +kernel)
set_option maxRecDepth 20000 in
theorem gX1_keepDataAndSum_X1_setValue : GoodIn wsX1_keepDataAndSum (wsV RX1 66 RX1 yX1_setValue wsX1_setValue) := goodIn_app (goodIn_of _ (by decide +kernel)) ggX1_keepDataAndSum_X1_setValue
theorem dX1_keepDataAndSum_0 : decode cX1_keepDataAndSum 0 = .ok (.aload_n 0, 1) := by decide +kernel
theorem dX1_keepDataAndSum_1 : decode cX1_keepDataAndSum 1 = .ok (.getfield 38, 3) := by decide +kernel
theorem dX1_keepDataAndSum_4 : decode cX1_keepDataAndSum 4 = .ok (.invokestatic 57, 3) := by decide +kernel
theorem dX1_keepDataAndSum_7 : decode cX1_keepDataAndSum 7 = .ok (.istore 5, 2) := by decide +kernel
theorem dX1_keepDataAndSum_9 : decode cX1_keepDataAndSum 9 = .ok (.iload_n 3, 1) := by decide +kernel
theorem dX1_keepDataAndSum_10 : decode cX1_keepDataAndSum 10 = .ok (.iload 4, 2) := by decide +kernel
theorem dX1_keepDataAndSum_12 : decode cX1_keepDataAndSum 12 = .ok (.iadd, 1) := by decide +kernel
theorem dX1_keepDataAndSum_13 : decode cX1_keepDataAndSum 13 = .ok (.istore 6, 2) := by decide +kernel
theorem dX1_keepDataAndSum_15 : decode cX1_keepDataAndSum 15 = .ok (.iconst 1, 1) := by decide +kernel
theorem dX1_keepDataAndSum_16 : decode cX1_keepDataAndSum 16 = .ok (.istore 7, 2) := by decide +kernel
theorem dX1_keepDataAndSum_18 : decode cX1_keepDataAndSum 18 = .ok (.iconst 0, 1) := by decide +kernel
theorem dX1_keepDataAndSum_19 : decode cX1_keepDataAndSum 19 = .ok (.istore 8, 2) := by decide +kernel
theorem dX1_keepDataAndSum_21 : decode cX1_keepDataAndSum 21 = .ok (.iload 8, 2) := by decide +kernel
theorem dX1_keepDataAndSum_23 : decode cX1_keepDataAndSum 23 = .ok (.iconst 4, 1) := by decide +kernel
theorem dX1_keepDataAndSum_24 : decode cX1_keepDataAndSum 24 = .ok (.if_icmp .ge 83, 3) := by decide +kernel
theorem dX1_keepDataAndSum_27 : decode cX1_keepDataAndSum 27 = .ok (.iload 8, 2) := by decide +kernel
theorem dX1_keepDataAndSum_29 : decode cX1_keepDataAndSum 29 = .ok (.iload 4, 2) := by decide +kernel
theorem dX1_keepDataAndSum_31 : decode cX1_keepDataAndSum 31 = .ok (.if_icmp .ge 21, 3) := by decide +kernel
theorem dX1_keepDataAndSum_34 : decode cX1_keepDataAndSum 34 = .ok (.aload_n 1, 1) := by decide +kernel
theorem dX1_keepDataAndSum_35 : decode cX1_keepDataAndSum 35 = .ok (.iload_n 2, 1) := by decide +kernel
theorem dX1_keepDataAndSum_36 : decode cX1_keepDataAndSum 36 = .ok (.iload 8, 2) := by decide +kernel
theorem dX1_keepDataAndSum_38 : decode cX1_keepDataAndSum 38 = .ok (.iload 5, 2) := by decide +kernel
theorem dX1_keepDataAndSum_40 : decode cX1_keepDataAndSum 40 = .ok (.imul, 1) := by decide +kernel
theorem dX1_keepDataAndSum_41 : decode cX1_keepDataAndSum 41 = .ok (.iadd, 1) := by decide +kernel
theorem dX1_keepDataAndSum_42 : decode cX1_keepDataAndSum 42 = .ok (.aload_n 0, 1) := by decide +kernel
theorem dX1_keepDataAndSum_43 : decode cX1_keepDataAndSum 43 = .ok (.getfield 38, 3) := by decide +kernel
theorem dX1_keepDataAndSum_46 : decode cX1_keepDataAndSum 46 = .ok (.invokestatic 62, 3) := by decide +kernel
theorem dX1_keepDataAndSum_49 : decode cX1_keepDataAndSum 49 = .ok (.goto 4, 3) := by decide +kernel
theorem dX1_keepDataAndSum_52 : decode cX1_keepDataAndSum 52 = .ok (.iconst (-1), 1) := by decide +kernel
theorem dX1_keepDataAndSum_53 : decode cX1_keepDataAndSum 53 = .ok (.istore 9, 2) := by decide +kernel
theorem dX1_keepDataAndSum_55 : decode cX1_keepDataAndSum 55 = .ok (.aload_n 0, 1) := by decide +kernel
theorem dX1_keepDataAndSum_56 : decode cX1_keepDataAndSum 56 = .ok (.aload_n 0, 1) := by decide +kernel
theorem dX1_keepDataAndSum_57 : decode cX1_keepDataAndSum 57 = .ok (.getfield 18, 3) := by decide +kernel
theorem dX1_keepDataAndSum_60 : decode cX1_keepDataAndSum 60 = .ok (.iconst 5, 1) := by decide +kernel
theorem dX1_keepDataAndSum_61 : decode cX1_keepDataAndSum 61 = .ok (.iload 8, 2) := by decide +kernel
theorem dX1_keepDataAndSum_63 : decode cX1_keepDataAndSum 63 = .ok (.iadd, 1) := by decide +kernel
theorem dX1_keepDataAndSum_64 : decode cX1_keepDataAndSum 64 = .ok (.iload 9, 2) := by decide +kernel
theorem dX1_keepDataAndSum_66 : decode cX1_keepDataAndSum 66 = .ok (.invokevirtual 66, 3) := by decide +kernel
theorem dX1_keepDataAndSum_69 : decode cX1_keepDataAndSum 69 = .ok (.iload 8, 2) := by decide +kernel
theorem dX1_keepDataAndSum_71 : decode cX1_keepDataAndSum 71 = .ok (.iload 4, 2) := by decide +kernel
theorem dX1_keepDataAndSum_73 : decode cX1_keepDataAndSum 73 = .ok (.if_icmp .ge 28, 3) := by decide +kernel
theorem dX1_keepDataAndSum_76 : decode cX1_keepDataAndSum 76 = .ok (.iload 6, 2) := by decide +kernel
theorem dX1_keepDataAndSum_78 : decode cX1_keepDataAndSum 78 = .ok (.iload 9, 2) := by decide +kernel
theorem dX1_keepDataAndSum_80 : decode cX1_keepDataAndSum 80 = .ok (.iadd, 1) := by decide +kernel
theorem dX1_keepDataAndSum_81 : decode cX1_keepDataAndSum 81 = .ok (.istore 6, 2) := by decide +kernel
theorem dX1_keepDataAndSum_83 : decode cX1_keepDataAndSum 83 = .ok (.iload 7, 2) := by decide +kernel
theorem dX1_keepDataAndSum_85 : decode cX1_keepDataAndSum 85 = .ok (.ifCond .eq 13, 3) := by decide +kernel
theorem dX1_keepDataAndSum_88 : decode cX1_keepDataAndSum 88 = .ok (.iload 9, 2) := by decide +kernel
theorem dX1_keepDataAndSum_90 : decode cX1_keepDataAndSum 90 = .ok (.iconst (-1), 1) := by decide +kernel
theorem dX1_keepDataAndSum_91 : decode cX1_keepDataAndSum 91 = .ok (.if_icmp .eq 7, 3) := by decide +kernel
theorem dX1_keepDataAndSum_94 : decode cX1_keepDataAndSum 94 = .ok (.iconst 1, 1) := by decide +kernel
theorem dX1_keepDataAndSum_95 : decode cX1_keepDataAndSum 95 = .ok (.goto 4, 3) := by decide +kernel
theorem dX1_keepDataAndSum_98 : decode cX1_keepDataAndSum 98 = .ok (.iconst 0, 1) := by decide +kernel
theorem dX1_keepDataAndSum_99 : decode cX1_keepDataAndSum 99 = .ok (.istore 7, 2) := by decide +kernel
theorem dX1_keepDataAndSum_101 : decode cX1_keepDataAndSum 101 = .ok (.iinc 8 1, 3) := by decide +kernel
theorem dX1_keepDataAndSum_104 : decode cX1_keepDataAndSum 104 = .ok (.goto (-83), 3) := by decide +kernel
theorem dX1_keepDataAndSum_107 : decode cX1_keepDataAndSum 107 = .ok (.aload_n 1, 1) := by decide +kernel
theorem dX1_keepDataAndSum_108 : decode cX1_keepDataAndSum 108 = .ok (.iload_n 2, 1) := by decide +kernel
theorem dX1_keepDataAndSum_109 : decode cX1_keepDataAndSum 109 = .ok (.iload 4, 2) := by decide +kernel
theorem dX1_keepDataAndSum_111 : decode cX1_keepDataAndSum 111 = .ok (.iload 5, 2) := by decide +kernel
theorem dX1_keepDataAndSum_113 : decode cX1_keepDataAndSum 113 = .ok (.imul, 1) := by decide +kernel
theorem dX1_keepDataAndSum_114 : decode cX1_keepDataAndSum 114 = .ok (.iadd, 1) := by decide +kernel
theorem dX1_keepDataAndSum_115 : decode cX1_keepDataAndSum 115 = .ok (.aload_n 0, 1) := by decide +kernel
theorem dX1_keepDataAndSum_116 : decode cX1_keepDataAndSum 116 = .ok (.getfield 38, 3) := by decide +kernel
theorem dX1_keepDataAndSum_119 : decode cX1_keepDataAndSum 119 = .ok (.invokestatic 62, 3) := by decide +kernel
theorem dX1_keepDataAndSum_122 : decode cX1_keepDataAndSum 122 = .ok (.istore 8, 2) := by decide +kernel
theorem dX1_keepDataAndSum_124 : decode cX1_keepDataAndSum 124 = .ok (.iload 7, 2) := by decide +kernel
theorem dX1_keepDataAndSum_126 : decode cX1_keepDataAndSum 126 = .ok (.ifCond .eq 18, 3) := by decide +kernel
theorem dX1_keepDataAndSum_129 : decode cX1_keepDataAndSum 129 = .ok (.iload 8, 2) := by decide +kernel
theorem dX1_keepDataAndSum_131 : decode cX1_keepDataAndSum 131 = .ok (.iload 6, 2) := by decide +kernel
theorem dX1_keepDataAndSum_133 : decode cX1_keepDataAndSum 133 = .ok (.sipush 256, 3) := by decide +kernel
theorem dX1_keepDataAndSum_136 : decode cX1_keepDataAndSum 136 = .ok (.irem, 1) := by decide +kernel
theorem dX1_keepDataAndSum_137 : decode cX1_keepDataAndSum 137 = .ok (.if_icmp .ne 7, 3) := by decide +kernel
theorem dX1_keepDataAndSum_140 : decode cX1_keepDataAndSum 140 = .ok (.iconst 1, 1) := by decide +kernel
theorem dX1_keepDataAndSum_141 : decode cX1_keepDataAndSum 141 = .ok (.goto 4, 3) := by decide +kernel
theorem dX1_keepDataAndSum_144 : decode cX1_keepDataAndSum 144 = .ok (.iconst 0, 1) := by decide +kernel
theorem dX1_keepDataAndSum_145 : decode cX1_keepDataAndSum 145 = .ok (.istore 7, 2) := by decide +kernel
theorem dX1_keepDataAndSum_147 : decode cX1_keepDataAndSum 147 = .ok (.aload_n 0, 1) := by decide +kernel
theorem dX1_keepDataAndSum_148 : decode cX1_keepDataAndSum 148 = .ok (.aload_n 0, 1) := by decide +kernel
theorem dX1_keepDataAndSum_149 : decode cX1_keepDataAndSum 149 = .ok (.getfield 18, 3) := by decide +kernel
theorem dX1_keepDataAndSum_152 : decode cX1_keepDataAndSum 152 = .ok (.iconst 4, 1) := by decide +kernel
theorem dX1_keepDataAndSum_153 : decode cX1_keepDataAndSum 153 = .ok (.iload 8, 2) := by decide +kernel
theorem dX1_keepDataAndSum_155 : decode cX1_keepDataAndSum 155 = .ok (.invokevirtual 66, 3) := by decide +kernel
theorem dX1_keepDataAndSum_158 : decode cX1_keepDataAndSum 158 = .ok (.aload_n 0, 1) := by decide +kernel
theorem dX1_keepDataAndSum_159 : decode cX1_keepDataAndSum 159 = .ok (.aload_n 0, 1) := by decide +kernel
theorem dX1_keepDataAndSum_160 : decode cX1_keepDataAndSum 160 = .ok (.getfield 18, 3) := by decide +kernel
theorem dX1_keepDataAndSum_163 : decode cX1_keepDataAndSum 163 = .ok (.iconst 3, 1) := by decide +kernel
theorem dX1_keepDataAndSum_164 : decode cX1_keepDataAndSum 164 = .ok (.iload 7, 2) := by decide +kernel
theorem dX1_keepDataAndSum_166 : decode cX1_keepDataAndSum 166 = .ok (.ifCond .eq 7, 3) := by decide +kernel
theorem dX1_keepDataAndSum_169 : decode cX1_keepDataAndSum 169 = .ok (.iconst 1, 1) := by decide +kernel
theorem dX1_keepDataAndSum_170 : decode cX1_keepDataAndSum 170 = .ok (.goto 4, 3) := by decide +kernel
theorem dX1_keepDataAndSum_173 : decode cX1_keepDataAndSum 173 = .ok (.iconst 0, 1) := by decide +kernel
theorem dX1_keepDataAndSum_174 : decode cX1_keepDataAndSum 174 = .ok (.invokevirtual 66, 3) := by decide +kernel
theorem dX1_keepDataAndSum_177 : decode cX1_keepDataAndSum 177 = .ok (.aload_n 0, 1) := by decide +kernel
theorem dX1_keepDataAndSum_178 : decode cX1_keepDataAndSum 178 = .ok (.dup, 1) := by decide +kernel
theorem dX1_keepDataAndSum_179 : decode cX1_keepDataAndSum 179 = .ok (.getfield 18, 3) := by decide +kernel
theorem dX1_keepDataAndSum_182 : decode cX1_keepDataAndSum 182 = .ok (.iconst 1, 1) := by decide +kernel
theorem dX1_keepDataAndSum_183 : decode cX1_keepDataAndSum 183 = .ok (.iadd, 1) := by decide +kernel
theorem dX1_keepDataAndSum_184 : decode cX1_keepDataAndSum 184 = .ok (.putfield 18, 3) := by decide +kernel
theorem dX1_keepDataAndSum_187 : decode cX1_keepDataAndSum 187 = .ok (.aload_n 0, 1) := by decide +kernel
theorem dX1_keepDataAndSum_188 : decode cX1_keepDataAndSum 188 = .ok (.dup, 1) := by decide +kernel
theorem dX1_keepDataAndSum_189 : decode cX1_keepDataAndSum 189 = .ok (.getfield 22, 3) := by decide +kernel
theorem dX1_keepDataAndSum_192 : decode cX1_keepDataAndSum 192 = .ok (.iload 7, 2) := by decide +kernel
theorem dX1_keepDataAndSum_194 : decode cX1_keepDataAndSum 194 = .ok (.ifCond .eq 7, 3) := by decide +kernel
theorem dX1_keepDataAndSum_197 : decode cX1_keepDataAndSum 197 = .ok (.iconst 1, 1) := by decide +kernel
theorem dX1_keepDataAndSum_198 : decode cX1_keepDataAndSum 198 = .ok (.goto 4, 3) := by decide +kernel
theorem dX1_keepDataAndSum_201 : decode cX1_keepDataAndSum 201 = .ok (.iconst 0, 1) := by decide +kernel
theorem dX1_keepDataAndSum_202 : decode cX1_keepDataAndSum 202 = .ok (.iadd, 1) := by decide +kernel
theorem dX1_keepDataAndSum_203 : decode cX1_keepDataAndSum 203 = .ok (.putfield 22, 3) := by decide +kernel
theorem dX1_keepDataAndSum_206 : decode cX1_keepDataAndSum 206 = .ok (.return_, 1) := by decide +kernel
set_option maxRecDepth 20000 in
theorem ggX1_planPlainCopy_X1_isFirstGood : GoodIn wsX1_planPlainCopy wsX1_isFirstGood := goodIn_r _ [10, 11, 12, 13, 9, 14, 15, 16, 17, 18, 19, 3, 27, 28, 29, 30, 31, 32, 33, 34, 35] (by decide +kernel) (by decide +kernel)
set_option maxRecDepth 20000 in
theorem gX1_planPlainCopy_X1_isFirstGood : GoodIn wsX1_planPlainCopy (wsV RX1 74 RX1 yX1_isFirstGood wsX1_isFirstGood) := goodIn_app (goodIn_of _ (by decide +kernel)) ggX1_planPlainCopy_X1_isFirstGood
set_option maxRecDepth 20000 in
theorem ggX1_planPlainCopy_X1_valueOf : GoodIn wsX1_planPlainCopy wsX1_valueOf := goodIn_r _ [14, 15, 27, 28, 29, 30, 31, 32, 33, 34, 35] (by decide +kernel) (by decide +kernel)
set_option maxRecDepth 20000 in
theorem gX1_planPlainCopy_X1_valueOf : GoodIn wsX1_planPlainCopy (wsV RX1 78 RX1 yX1_valueOf wsX1_valueOf) := goodIn_app (goodIn_of _ (by decide +kernel)) ggX1_planPlainCopy_X1_valueOf
set_option maxRecDepth 20000 in
theorem ggX1_planPlainCopy_X0_cellsOfSector : GoodIn wsX1_planPlainCopy wsX0_cellsOfSector := goodIn_r _ [23, 24, 25, 22, 26] (by decide +kernel) (by decide +kernel)
set_option maxRecDepth 20000 in
theorem gX1_planPlainCopy_X0_cellsOfSector : GoodIn wsX1_planPlainCopy (va_wsS RX1 82 yX0_cellsOfSector wsX0_cellsOfSector) := goodIn_app (goodIn_of _ (by decide +kernel)) ggX1_planPlainCopy_X0_cellsOfSector
theorem dX1_planPlainCopy_0 : decode cX1_planPlainCopy 0 = .ok (.aload_n 0, 1) := by decide +kernel
theorem dX1_planPlainCopy_1 : decode cX1_planPlainCopy 1 = .ok (.iconst 0, 1) := by decide +kernel
theorem dX1_planPlainCopy_2 : decode cX1_planPlainCopy 2 = .ok (.putfield 32, 3) := by decide +kernel
theorem dX1_planPlainCopy_5 : decode cX1_planPlainCopy 5 = .ok (.aload_n 0, 1) := by decide +kernel
theorem dX1_planPlainCopy_6 : decode cX1_planPlainCopy 6 = .ok (.iconst 0, 1) := by decide +kernel
theorem dX1_planPlainCopy_7 : decode cX1_planPlainCopy 7 = .ok (.putfield 35, 3) := by decide +kernel
theorem dX1_planPlainCopy_10 : decode cX1_planPlainCopy 10 = .ok (.iconst 0, 1) := by decide +kernel
theorem dX1_planPlainCopy_11 : decode cX1_planPlainCopy 11 = .ok (.istore_n 1, 1) := by decide +kernel
theorem dX1_planPlainCopy_12 : decode cX1_planPlainCopy 12 = .ok (.iload_n 1, 1) := by decide +kernel
theorem dX1_planPlainCopy_13 : decode cX1_planPlainCopy 13 = .ok (.aload_n 0, 1) := by decide +kernel
theorem dX1_planPlainCopy_14 : decode cX1_planPlainCopy 14 = .ok (.getfield 18, 3) := by decide +kernel
theorem dX1_planPlainCopy_17 : decode cX1_planPlainCopy 17 = .ok (.if_icmp .ge 96, 3) := by decide +kernel
theorem dX1_planPlainCopy_20 : decode cX1_planPlainCopy 20 = .ok (.aload_n 0, 1) := by decide +kernel
theorem dX1_planPlainCopy_21 : decode cX1_planPlainCopy 21 = .ok (.iload_n 1, 1) := by decide +kernel
theorem dX1_planPlainCopy_22 : decode cX1_planPlainCopy 22 = .ok (.invokevirtual 74, 3) := by decide +kernel
theorem dX1_planPlainCopy_25 : decode cX1_planPlainCopy 25 = .ok (.ifCond .ne 6, 3) := by decide +kernel
theorem dX1_planPlainCopy_28 : decode cX1_planPlainCopy 28 = .ok (.goto 79, 3) := by decide +kernel
theorem dX1_planPlainCopy_31 : decode cX1_planPlainCopy 31 = .ok (.aload_n 0, 1) := by decide +kernel
theorem dX1_planPlainCopy_32 : decode cX1_planPlainCopy 32 = .ok (.getfield 38, 3) := by decide +kernel
theorem dX1_planPlainCopy_35 : decode cX1_planPlainCopy 35 = .ok (.aload_n 0, 1) := by decide +kernel
theorem dX1_planPlainCopy_36 : decode cX1_planPlainCopy 36 = .ok (.iload_n 1, 1) := by decide +kernel
theorem dX1_planPlainCopy_37 : decode cX1_planPlainCopy 37 = .ok (.iconst 2, 1) := by decide +kernel
theorem dX1_planPlainCopy_38 : decode cX1_planPlainCopy 38 = .ok (.invokevirtual 78, 3) := by decide +kernel
theorem dX1_planPlainCopy_41 : decode cX1_planPlainCopy 41 = .ok (.invokestatic 82, 3) := by decide +kernel
theorem dX1_planPlainCopy_44 : decode cX1_planPlainCopy 44 = .ok (.istore_n 2, 1) := by decide +kernel
theorem dX1_planPlainCopy_45 : decode cX1_planPlainCopy 45 = .ok (.aload_n 0, 1) := by decide +kernel
theorem dX1_planPlainCopy_46 : decode cX1_planPlainCopy 46 = .ok (.getfield 35, 3) := by decide +kernel
theorem dX1_planPlainCopy_49 : decode cX1_planPlainCopy 49 = .ok (.iload_n 2, 1) := by decide +kernel
theorem dX1_planPlainCopy_50 : decode cX1_planPlainCopy 50 = .ok (.iadd, 1) := by decide +kernel
theorem dX1_planPlainCopy_51 : decode cX1_planPlainCopy 51 = .ok (.sipush 400, 3) := by decide +kernel
theorem dX1_planPlainCopy_54 : decode cX1_planPlainCopy 54 = .ok (.if_icmp .gt 22, 3) := by decide +kernel
theorem dX1_planPlainCopy_57 : decode cX1_planPlainCopy 57 = .ok (.aload_n 0, 1) := by decide +kernel
theorem dX1_planPlainCopy_58 : decode cX1_planPlainCopy 58 = .ok (.getfield 32, 3) := by decide +kernel
theorem dX1_planPlainCopy_61 : decode cX1_planPlainCopy 61 = .ok (.ifCond .lt 15, 3) := by decide +kernel
theorem dX1_planPlainCopy_64 : decode cX1_planPlainCopy 64 = .ok (.aload_n 0, 1) := by decide +kernel
theorem dX1_planPlainCopy_65 : decode cX1_planPlainCopy 65 = .ok (.getfield 32, 3) := by decide +kernel
theorem dX1_planPlainCopy_68 : decode cX1_planPlainCopy 68 = .ok (.aload_n 0, 1) := by decide +kernel
theorem dX1_planPlainCopy_69 : decode cX1_planPlainCopy 69 = .ok (.getfield 15, 3) := by decide +kernel
theorem dX1_planPlainCopy_72 : decode cX1_planPlainCopy 72 = .ok (.arraylength, 1) := by decide +kernel
theorem dX1_planPlainCopy_73 : decode cX1_planPlainCopy 73 = .ok (.if_icmp .lt 4, 3) := by decide +kernel
theorem dX1_planPlainCopy_76 : decode cX1_planPlainCopy 76 = .ok (.return_, 1) := by decide +kernel
theorem dX1_planPlainCopy_77 : decode cX1_planPlainCopy 77 = .ok (.aload_n 0, 1) := by decide +kernel
theorem dX1_planPlainCopy_78 : decode cX1_planPlainCopy 78 = .ok (.getfield 15, 3) := by decide +kernel
theorem dX1_planPlainCopy_81 : decode cX1_planPlainCopy 81 = .ok (.aload_n 0, 1) := by decide +kernel
theorem dX1_planPlainCopy_82 : decode cX1_planPlainCopy 82 = .ok (.getfield 32, 3) := by decide +kernel
theorem dX1_planPlainCopy_85 : decode cX1_planPlainCopy 85 = .ok (.iload_n 1, 1) := by decide +kernel
theorem dX1_planPlainCopy_86 : decode cX1_planPlainCopy 86 = .ok (.iastore, 1) := by decide +kernel
theorem dX1_planPlainCopy_87 : decode cX1_planPlainCopy 87 = .ok (.aload_n 0, 1) := by decide +kernel
theorem dX1_planPlainCopy_88 : decode cX1_planPlainCopy 88 = .ok (.dup, 1) := by decide +kernel
theorem dX1_planPlainCopy_89 : decode cX1_planPlainCopy 89 = .ok (.getfield 32, 3) := by decide +kernel
theorem dX1_planPlainCopy_92 : decode cX1_planPlainCopy 92 = .ok (.iconst 1, 1) := by decide +kernel
theorem dX1_planPlainCopy_93 : decode cX1_planPlainCopy 93 = .ok (.iadd, 1) := by decide +kernel
theorem dX1_planPlainCopy_94 : decode cX1_planPlainCopy 94 = .ok (.putfield 32, 3) := by decide +kernel
theorem dX1_planPlainCopy_97 : decode cX1_planPlainCopy 97 = .ok (.aload_n 0, 1) := by decide +kernel
theorem dX1_planPlainCopy_98 : decode cX1_planPlainCopy 98 = .ok (.dup, 1) := by decide +kernel
theorem dX1_planPlainCopy_99 : decode cX1_planPlainCopy 99 = .ok (.getfield 35, 3) := by decide +kernel
theorem dX1_planPlainCopy_102 : decode cX1_planPlainCopy 102 = .ok (.iload_n 2, 1) := by decide +kernel
theorem dX1_planPlainCopy_103 : decode cX1_planPlainCopy 103 = .ok (.iadd, 1) := by decide +kernel
theorem dX1_planPlainCopy_104 : decode cX1_planPlainCopy 104 = .ok (.putfield 35, 3) := by decide +kernel
theorem dX1_planPlainCopy_107 : decode cX1_planPlainCopy 107 = .ok (.iinc 1 1, 3) := by decide +kernel
theorem dX1_planPlainCopy_110 : decode cX1_planPlainCopy 110 = .ok (.goto (-98), 3) := by decide +kernel
theorem dX1_planPlainCopy_113 : decode cX1_planPlainCopy 113 = .ok (.return_, 1) := by decide +kernel
theorem dX1_plainSector_0 : decode cX1_plainSector 0 = .ok (.iload_n 1, 1) := by decide +kernel
theorem dX1_plainSector_1 : decode cX1_plainSector 1 = .ok (.ifCond .lt 29, 3) := by decide +kernel
theorem dX1_plainSector_4 : decode cX1_plainSector 4 = .ok (.iload_n 1, 1) := by decide +kernel
theorem dX1_plainSector_5 : decode cX1_plainSector 5 = .ok (.aload_n 0, 1) := by decide +kernel
theorem dX1_plainSector_6 : decode cX1_plainSector 6 = .ok (.getfield 32, 3) := by decide +kernel
theorem dX1_plainSector_9 : decode cX1_plainSector 9 = .ok (.if_icmp .ge 21, 3) := by decide +kernel
theorem dX1_plainSector_12 : decode cX1_plainSector 12 = .ok (.iload_n 1, 1) := by decide +kernel
theorem dX1_plainSector_13 : decode cX1_plainSector 13 = .ok (.aload_n 0, 1) := by decide +kernel
theorem dX1_plainSector_14 : decode cX1_plainSector 14 = .ok (.getfield 15, 3) := by decide +kernel
theorem dX1_plainSector_17 : decode cX1_plainSector 17 = .ok (.arraylength, 1) := by decide +kernel
theorem dX1_plainSector_18 : decode cX1_plainSector 18 = .ok (.if_icmp .ge 12, 3) := by decide +kernel
theorem dX1_plainSector_21 : decode cX1_plainSector 21 = .ok (.aload_n 0, 1) := by decide +kernel
theorem dX1_plainSector_22 : decode cX1_plainSector 22 = .ok (.getfield 15, 3) := by decide +kernel
theorem dX1_plainSector_25 : decode cX1_plainSector 25 = .ok (.iload_n 1, 1) := by decide +kernel
theorem dX1_plainSector_26 : decode cX1_plainSector 26 = .ok (.iaload, 1) := by decide +kernel
theorem dX1_plainSector_27 : decode cX1_plainSector 27 = .ok (.goto 4, 3) := by decide +kernel
theorem dX1_plainSector_30 : decode cX1_plainSector 30 = .ok (.iconst (-1), 1) := by decide +kernel
theorem dX1_plainSector_31 : decode cX1_plainSector 31 = .ok (.ireturn, 1) := by decide +kernel
theorem dX1_setValue_0 : decode cX1_setValue 0 = .ok (.iload_n 1, 1) := by decide +kernel
theorem dX1_setValue_1 : decode cX1_setValue 1 = .ok (.bipush 9, 2) := by decide +kernel
theorem dX1_setValue_3 : decode cX1_setValue 3 = .ok (.imul, 1) := by decide +kernel
theorem dX1_setValue_4 : decode cX1_setValue 4 = .ok (.iload_n 2, 1) := by decide +kernel
theorem dX1_setValue_5 : decode cX1_setValue 5 = .ok (.iadd, 1) := by decide +kernel
theorem dX1_setValue_6 : decode cX1_setValue 6 = .ok (.istore 4, 2) := by decide +kernel
theorem dX1_setValue_8 : decode cX1_setValue 8 = .ok (.iload 4, 2) := by decide +kernel
theorem dX1_setValue_10 : decode cX1_setValue 10 = .ok (.ifCond .lt 21, 3) := by decide +kernel
theorem dX1_setValue_13 : decode cX1_setValue 13 = .ok (.iload 4, 2) := by decide +kernel
theorem dX1_setValue_15 : decode cX1_setValue 15 = .ok (.aload_n 0, 1) := by decide +kernel
theorem dX1_setValue_16 : decode cX1_setValue 16 = .ok (.getfield 11, 3) := by decide +kernel
theorem dX1_setValue_19 : decode cX1_setValue 19 = .ok (.arraylength, 1) := by decide +kernel
theorem dX1_setValue_20 : decode cX1_setValue 20 = .ok (.if_icmp .ge 11, 3) := by decide +kernel
theorem dX1_setValue_23 : decode cX1_setValue 23 = .ok (.aload_n 0, 1) := by decide +kernel
theorem dX1_setValue_24 : decode cX1_setValue 24 = .ok (.getfield 11, 3) := by decide +kernel
theorem dX1_setValue_27 : decode cX1_setValue 27 = .ok (.iload 4, 2) := by decide +kernel
theorem dX1_setValue_29 : decode cX1_setValue 29 = .ok (.iload_n 3, 1) := by decide +kernel
theorem dX1_setValue_30 : decode cX1_setValue 30 = .ok (.iastore, 1) := by decide +kernel
theorem dX1_setValue_31 : decode cX1_setValue 31 = .ok (.return_, 1) := by decide +kernel
theorem dX1_valueOf_0 : decode cX1_valueOf 0 = .ok (.iload_n 1, 1) := by decide +kernel
theorem dX1_valueOf_1 : decode cX1_valueOf 1 = .ok (.bipush 9, 2) := by decide +kernel
theorem dX1_valueOf_3 : decode cX1_valueOf 3 = .ok (.imul, 1) := by decide +kernel
theorem dX1_valueOf_4 : decode cX1_valueOf 4 = .ok (.iload_n 2, 1) := by decide +kernel
theorem dX1_valueOf_5 : decode cX1_valueOf 5 = .ok (.iadd, 1) := by decide +kernel
theorem dX1_valueOf_6 : decode cX1_valueOf 6 = .ok (.istore_n 3, 1) := by decide +kernel
theorem dX1_valueOf_7 : decode cX1_valueOf 7 = .ok (.iload_n 3, 1) := by decide +kernel
theorem dX1_valueOf_8 : decode cX1_valueOf 8 = .ok (.ifCond .lt 21, 3) := by decide +kernel
theorem dX1_valueOf_11 : decode cX1_valueOf 11 = .ok (.iload_n 3, 1) := by decide +kernel
theorem dX1_valueOf_12 : decode cX1_valueOf 12 = .ok (.aload_n 0, 1) := by decide +kernel
theorem dX1_valueOf_13 : decode cX1_valueOf 13 = .ok (.getfield 11, 3) := by decide +kernel
theorem dX1_valueOf_16 : decode cX1_valueOf 16 = .ok (.arraylength, 1) := by decide +kernel
theorem dX1_valueOf_17 : decode cX1_valueOf 17 = .ok (.if_icmp .ge 12, 3) := by decide +kernel
theorem dX1_valueOf_20 : decode cX1_valueOf 20 = .ok (.aload_n 0, 1) := by decide +kernel
theorem dX1_valueOf_21 : decode cX1_valueOf 21 = .ok (.getfield 11, 3) := by decide +kernel
theorem dX1_valueOf_24 : decode cX1_valueOf 24 = .ok (.iload_n 3, 1) := by decide +kernel
theorem dX1_valueOf_25 : decode cX1_valueOf 25 = .ok (.iaload, 1) := by decide +kernel
theorem dX1_valueOf_26 : decode cX1_valueOf 26 = .ok (.goto 4, 3) := by decide +kernel
theorem dX1_valueOf_29 : decode cX1_valueOf 29 = .ok (.iconst (-1), 1) := by decide +kernel
theorem dX1_valueOf_30 : decode cX1_valueOf 30 = .ok (.ireturn, 1) := by decide +kernel
set_option maxRecDepth 20000 in
theorem ggX1_firstGood_X1_valueOf : GoodIn wsX1_firstGood wsX1_valueOf := goodIn_r _ [6, 7, 8, 9, 10, 11, 12, 13, 14, 15, 16] (by decide +kernel) (by decide +kernel)
set_option maxRecDepth 20000 in
theorem gX1_firstGood_X1_valueOf : GoodIn wsX1_firstGood (wsV RX1 78 RX1 yX1_valueOf wsX1_valueOf) := goodIn_app (goodIn_of _ (by decide +kernel)) ggX1_firstGood_X1_valueOf
theorem dX1_firstGood_0 : decode cX1_firstGood 0 = .ok (.iconst 0, 1) := by decide +kernel
theorem dX1_firstGood_1 : decode cX1_firstGood 1 = .ok (.istore_n 2, 1) := by decide +kernel
theorem dX1_firstGood_2 : decode cX1_firstGood 2 = .ok (.iload_n 2, 1) := by decide +kernel
theorem dX1_firstGood_3 : decode cX1_firstGood 3 = .ok (.aload_n 0, 1) := by decide +kernel
theorem dX1_firstGood_4 : decode cX1_firstGood 4 = .ok (.getfield 18, 3) := by decide +kernel
theorem dX1_firstGood_7 : decode cX1_firstGood 7 = .ok (.if_icmp .ge 31, 3) := by decide +kernel
theorem dX1_firstGood_10 : decode cX1_firstGood 10 = .ok (.aload_n 0, 1) := by decide +kernel
theorem dX1_firstGood_11 : decode cX1_firstGood 11 = .ok (.iload_n 2, 1) := by decide +kernel
theorem dX1_firstGood_12 : decode cX1_firstGood 12 = .ok (.iconst 3, 1) := by decide +kernel
theorem dX1_firstGood_13 : decode cX1_firstGood 13 = .ok (.invokevirtual 78, 3) := by decide +kernel
theorem dX1_firstGood_16 : decode cX1_firstGood 16 = .ok (.iconst 1, 1) := by decide +kernel
theorem dX1_firstGood_17 : decode cX1_firstGood 17 = .ok (.if_icmp .ne 15, 3) := by decide +kernel
theorem dX1_firstGood_20 : decode cX1_firstGood 20 = .ok (.aload_n 0, 1) := by decide +kernel
theorem dX1_firstGood_21 : decode cX1_firstGood 21 = .ok (.iload_n 2, 1) := by decide +kernel
theorem dX1_firstGood_22 : decode cX1_firstGood 22 = .ok (.iconst 1, 1) := by decide +kernel
theorem dX1_firstGood_23 : decode cX1_firstGood 23 = .ok (.invokevirtual 78, 3) := by decide +kernel
theorem dX1_firstGood_26 : decode cX1_firstGood 26 = .ok (.iload_n 1, 1) := by decide +kernel
theorem dX1_firstGood_27 : decode cX1_firstGood 27 = .ok (.if_icmp .ne 5, 3) := by decide +kernel
theorem dX1_firstGood_30 : decode cX1_firstGood 30 = .ok (.iload_n 2, 1) := by decide +kernel
theorem dX1_firstGood_31 : decode cX1_firstGood 31 = .ok (.ireturn, 1) := by decide +kernel
theorem dX1_firstGood_32 : decode cX1_firstGood 32 = .ok (.iinc 2 1, 3) := by decide +kernel
theorem dX1_firstGood_35 : decode cX1_firstGood 35 = .ok (.goto (-33), 3) := by decide +kernel
theorem dX1_firstGood_38 : decode cX1_firstGood 38 = .ok (.iconst (-1), 1) := by decide +kernel
theorem dX1_firstGood_39 : decode cX1_firstGood 39 = .ok (.ireturn, 1) := by decide +kernel
set_option maxRecDepth 20000 in
theorem ggX1_isFirstGood_X1_valueOf : GoodIn wsX1_isFirstGood wsX1_valueOf := goodIn_r _ [5, 6, 12, 13, 14, 15, 16, 17, 18, 19, 20] (by decide +kernel) (by decide +kernel)
set_option maxRecDepth 20000 in
theorem gX1_isFirstGood_X1_valueOf : GoodIn wsX1_isFirstGood (wsV RX1 78 RX1 yX1_valueOf wsX1_valueOf) := goodIn_app (goodIn_of _ (by decide +kernel)) ggX1_isFirstGood_X1_valueOf
set_option maxRecDepth 20000 in
theorem ggX1_isFirstGood_X1_firstGood : GoodIn wsX1_isFirstGood wsX1_firstGood := goodIn_r _ [10, 11, 1, 2, 3, 4, 5, 6, 12, 13, 14, 15, 16, 17, 18, 19, 20] (by decide +kernel) (by decide +kernel)
set_option maxRecDepth 20000 in
theorem gX1_isFirstGood_X1_firstGood : GoodIn wsX1_isFirstGood (wsV RX1 85 RX1 yX1_firstGood wsX1_firstGood) := goodIn_app (goodIn_of _ (by decide +kernel)) ggX1_isFirstGood_X1_firstGood
theorem dX1_isFirstGood_0 : decode cX1_isFirstGood 0 = .ok (.aload_n 0, 1) := by decide +kernel
theorem dX1_isFirstGood_1 : decode cX1_isFirstGood 1 = .ok (.aload_n 0, 1) := by decide +kernel
theorem dX1_isFirstGood_2 : decode cX1_isFirstGood 2 = .ok (.iload_n 1, 1) := by decide +kernel
theorem dX1_isFirstGood_3 : decode cX1_isFirstGood 3 = .ok (.iconst 1, 1) := by decide +kernel
theorem dX1_isFirstGood_4 : decode cX1_isFirstGood 4 = .ok (.invokevirtual 78, 3) := by decide +kernel
theorem dX1_isFirstGood_7 : decode cX1_isFirstGood 7 = .ok (.invokevirtual 85, 3) := by decide +kernel
theorem dX1_isFirstGood_10 : decode cX1_isFirstGood 10 = .ok (.iload_n 1, 1) := by decide +kernel
theorem dX1_isFirstGood_11 : decode cX1_isFirstGood 11 = .ok (.if_icmp .ne 7, 3) := by decide +kernel
theorem dX1_isFirstGood_14 : decode cX1_isFirstGood 14 = .ok (.iconst 1, 1) := by decide +kernel
theorem dX1_isFirstGood_15 : decode cX1_isFirstGood 15 = .ok (.goto 4, 3) := by decide +kernel
theorem dX1_isFirstGood_18 : decode cX1_isFirstGood 18 = .ok (.iconst 0, 1) := by decide +kernel
theorem dX1_isFirstGood_19 : decode cX1_isFirstGood 19 = .ok (.ireturn, 1) := by decide +kernel
set_option maxRecDepth 20000 in
theorem ggX1_chainFrom_X1_firstGood : GoodIn wsX1_chainFrom wsX1_firstGood := goodIn_r _ [6, 1, 7, 8, 9, 5, 10, 11, 12, 13, 14, 15, 16, 17, 18, 19, 20] (by decide +kernel) (by decide +kernel)
set_option maxRecDepth 20000 in
theorem gX1_chainFrom_X1_firstGood : GoodIn wsX1_chainFrom (wsV RX1 85 RX1 yX1_firstGood wsX1_firstGood) := goodIn_app (goodIn_of _ (by decide +kernel)) ggX1_chainFrom_X1_firstGood
set_option maxRecDepth 20000 in
theorem ggX1_chainFrom_X1_valueOf : GoodIn wsX1_chainFrom wsX1_valueOf := goodIn_r _ [10, 11, 12, 13, 14, 15, 16, 17, 18, 19, 20] (by decide +kernel) (by decide +kernel)
set_option maxRecDepth 20000 in
theorem gX1_chainFrom_X1_valueOf : GoodIn wsX1_chainFrom (wsV RX1 78 RX1 yX1_valueOf wsX1_valueOf) := goodIn_app (goodIn_of _ (by decide +kernel)) ggX1_chainFrom_X1_valueOf
theorem dX1_chainFrom_0 : decode cX1_chainFrom 0 = .ok (.iload_n 1, 1) := by decide +kernel
theorem dX1_chainFrom_1 : decode cX1_chainFrom 1 = .ok (.istore_n 2, 1) := by decide +kernel
theorem dX1_chainFrom_2 : decode cX1_chainFrom 2 = .ok (.iconst 1, 1) := by decide +kernel
theorem dX1_chainFrom_3 : decode cX1_chainFrom 3 = .ok (.istore_n 3, 1) := by decide +kernel
theorem dX1_chainFrom_4 : decode cX1_chainFrom 4 = .ok (.iload_n 3, 1) := by decide +kernel
theorem dX1_chainFrom_5 : decode cX1_chainFrom 5 = .ok (.aload_n 0, 1) := by decide +kernel
theorem dX1_chainFrom_6 : decode cX1_chainFrom 6 = .ok (.getfield 18, 3) := by decide +kernel
theorem dX1_chainFrom_9 : decode cX1_chainFrom 9 = .ok (.if_icmp .gt 41, 3) := by decide +kernel
theorem dX1_chainFrom_12 : decode cX1_chainFrom 12 = .ok (.aload_n 0, 1) := by decide +kernel
theorem dX1_chainFrom_13 : decode cX1_chainFrom 13 = .ok (.iload_n 2, 1) := by decide +kernel
theorem dX1_chainFrom_14 : decode cX1_chainFrom 14 = .ok (.invokevirtual 85, 3) := by decide +kernel
theorem dX1_chainFrom_17 : decode cX1_chainFrom 17 = .ok (.istore 4, 2) := by decide +kernel
theorem dX1_chainFrom_19 : decode cX1_chainFrom 19 = .ok (.iload 4, 2) := by decide +kernel
theorem dX1_chainFrom_21 : decode cX1_chainFrom 21 = .ok (.iconst (-1), 1) := by decide +kernel
theorem dX1_chainFrom_22 : decode cX1_chainFrom 22 = .ok (.if_icmp .ne 5, 3) := by decide +kernel
theorem dX1_chainFrom_25 : decode cX1_chainFrom 25 = .ok (.iconst (-1), 1) := by decide +kernel
theorem dX1_chainFrom_26 : decode cX1_chainFrom 26 = .ok (.ireturn, 1) := by decide +kernel
theorem dX1_chainFrom_27 : decode cX1_chainFrom 27 = .ok (.aload_n 0, 1) := by decide +kernel
theorem dX1_chainFrom_28 : decode cX1_chainFrom 28 = .ok (.iload 4, 2) := by decide +kernel
theorem dX1_chainFrom_30 : decode cX1_chainFrom 30 = .ok (.iconst 5, 1) := by decide +kernel
theorem dX1_chainFrom_31 : decode cX1_chainFrom 31 = .ok (.invokevirtual 78, 3) := by decide +kernel
theorem dX1_chainFrom_34 : decode cX1_chainFrom 34 = .ok (.istore_n 2, 1) := by decide +kernel
theorem dX1_chainFrom_35 : decode cX1_chainFrom 35 = .ok (.iload_n 2, 1) := by decide +kernel
theorem dX1_chainFrom_36 : decode cX1_chainFrom 36 = .ok (.sipush 255, 3) := by decide +kernel
theorem dX1_chainFrom_39 : decode cX1_chainFrom 39 = .ok (.if_icmp .ne 5, 3) := by decide +kernel
theorem dX1_chainFrom_42 : decode cX1_chainFrom 42 = .ok (.iload_n 3, 1) := by decide +kernel
theorem dX1_chainFrom_43 : decode cX1_chainFrom 43 = .ok (.ireturn, 1) := by decide +kernel
theorem dX1_chainFrom_44 : decode cX1_chainFrom 44 = .ok (.iinc 3 1, 3) := by decide +kernel
theorem dX1_chainFrom_47 : decode cX1_chainFrom 47 = .ok (.goto (-43), 3) := by decide +kernel
theorem dX1_chainFrom_50 : decode cX1_chainFrom 50 = .ok (.iconst (-1), 1) := by decide +kernel
theorem dX1_chainFrom_51 : decode cX1_chainFrom 51 = .ok (.ireturn, 1) := by decide +kernel
set_option maxRecDepth 20000 in
theorem ggX1_hasTwins_X1_valueOf : GoodIn wsX1_hasTwins wsX1_valueOf := goodIn_r _ [6, 7, 8, 9, 10, 11, 12, 13, 14, 15, 16] (by decide +kernel) (by decide +kernel)
set_option maxRecDepth 20000 in
theorem gX1_hasTwins_X1_valueOf : GoodIn wsX1_hasTwins (wsV RX1 78 RX1 yX1_valueOf wsX1_valueOf) := goodIn_app (goodIn_of _ (by decide +kernel)) ggX1_hasTwins_X1_valueOf
theorem dX1_hasTwins_0 : decode cX1_hasTwins 0 = .ok (.iconst 0, 1) := by decide +kernel
theorem dX1_hasTwins_1 : decode cX1_hasTwins 1 = .ok (.istore_n 1, 1) := by decide +kernel
theorem dX1_hasTwins_2 : decode cX1_hasTwins 2 = .ok (.iload_n 1, 1) := by decide +kernel
theorem dX1_hasTwins_3 : decode cX1_hasTwins 3 = .ok (.aload_n 0, 1) := by decide +kernel
theorem dX1_hasTwins_4 : decode cX1_hasTwins 4 = .ok (.getfield 18, 3) := by decide +kernel
theorem dX1_hasTwins_7 : decode cX1_hasTwins 7 = .ok (.if_icmp .ge 44, 3) := by decide +kernel
theorem dX1_hasTwins_10 : decode cX1_hasTwins 10 = .ok (.iload_n 1, 1) := by decide +kernel
theorem dX1_hasTwins_11 : decode cX1_hasTwins 11 = .ok (.iconst 1, 1) := by decide +kernel
theorem dX1_hasTwins_12 : decode cX1_hasTwins 12 = .ok (.iadd, 1) := by decide +kernel
theorem dX1_hasTwins_13 : decode cX1_hasTwins 13 = .ok (.istore_n 2, 1) := by decide +kernel
theorem dX1_hasTwins_14 : decode cX1_hasTwins 14 = .ok (.iload_n 2, 1) := by decide +kernel
theorem dX1_hasTwins_15 : decode cX1_hasTwins 15 = .ok (.aload_n 0, 1) := by decide +kernel
theorem dX1_hasTwins_16 : decode cX1_hasTwins 16 = .ok (.getfield 18, 3) := by decide +kernel
theorem dX1_hasTwins_19 : decode cX1_hasTwins 19 = .ok (.if_icmp .ge 26, 3) := by decide +kernel
theorem dX1_hasTwins_22 : decode cX1_hasTwins 22 = .ok (.aload_n 0, 1) := by decide +kernel
theorem dX1_hasTwins_23 : decode cX1_hasTwins 23 = .ok (.iload_n 1, 1) := by decide +kernel
theorem dX1_hasTwins_24 : decode cX1_hasTwins 24 = .ok (.iconst 1, 1) := by decide +kernel
theorem dX1_hasTwins_25 : decode cX1_hasTwins 25 = .ok (.invokevirtual 78, 3) := by decide +kernel
theorem dX1_hasTwins_28 : decode cX1_hasTwins 28 = .ok (.aload_n 0, 1) := by decide +kernel
theorem dX1_hasTwins_29 : decode cX1_hasTwins 29 = .ok (.iload_n 2, 1) := by decide +kernel
theorem dX1_hasTwins_30 : decode cX1_hasTwins 30 = .ok (.iconst 1, 1) := by decide +kernel
theorem dX1_hasTwins_31 : decode cX1_hasTwins 31 = .ok (.invokevirtual 78, 3) := by decide +kernel
theorem dX1_hasTwins_34 : decode cX1_hasTwins 34 = .ok (.if_icmp .ne 5, 3) := by decide +kernel
theorem dX1_hasTwins_37 : decode cX1_hasTwins 37 = .ok (.iconst 1, 1) := by decide +kernel
theorem dX1_hasTwins_38 : decode cX1_hasTwins 38 = .ok (.ireturn, 1) := by decide +kernel
theorem dX1_hasTwins_39 : decode cX1_hasTwins 39 = .ok (.iinc 2 1, 3) := by decide +kernel
theorem dX1_hasTwins_42 : decode cX1_hasTwins 42 = .ok (.goto (-28), 3) := by decide +kernel
theorem dX1_hasTwins_45 : decode cX1_hasTwins 45 = .ok (.iinc 1 1, 3) := by decide +kernel
theorem dX1_hasTwins_48 : decode cX1_hasTwins 48 = .ok (.goto (-46), 3) := by decide +kernel
theorem dX1_hasTwins_51 : decode cX1_hasTwins 51 = .ok (.iconst 0, 1) := by decide +kernel
theorem dX1_hasTwins_52 : decode cX1_hasTwins 52 = .ok (.ireturn, 1) := by decide +kernel
set_option maxRecDepth 20000 in
theorem ggX1_dataOf_X1_valueOf : GoodIn wsX1_dataOf wsX1_valueOf := goodIn_r _ [5, 6, 7, 8, 9, 10, 11, 12, 13, 14, 15] (by decide +kernel) (by decide +kernel)
set_option maxRecDepth 20000 in
theorem gX1_dataOf_X1_valueOf : GoodIn wsX1_dataOf (wsV RX1 78 RX1 yX1_valueOf wsX1_valueOf) := goodIn_app (goodIn_of _ (by decide +kernel)) ggX1_dataOf_X1_valueOf
theorem dX1_dataOf_0 : decode cX1_dataOf 0 = .ok (.iconst 0, 1) := by decide +kernel
theorem dX1_dataOf_1 : decode cX1_dataOf 1 = .ok (.istore_n 2, 1) := by decide +kernel
theorem dX1_dataOf_2 : decode cX1_dataOf 2 = .ok (.iconst 0, 1) := by decide +kernel
theorem dX1_dataOf_3 : decode cX1_dataOf 3 = .ok (.istore_n 3, 1) := by decide +kernel
theorem dX1_dataOf_4 : decode cX1_dataOf 4 = .ok (.iload_n 3, 1) := by decide +kernel
theorem dX1_dataOf_5 : decode cX1_dataOf 5 = .ok (.iconst 4, 1) := by decide +kernel
theorem dX1_dataOf_6 : decode cX1_dataOf 6 = .ok (.if_icmp .ge 29, 3) := by decide +kernel
theorem dX1_dataOf_9 : decode cX1_dataOf 9 = .ok (.iload_n 2, 1) := by decide +kernel
theorem dX1_dataOf_10 : decode cX1_dataOf 10 = .ok (.aload_n 0, 1) := by decide +kernel
theorem dX1_dataOf_11 : decode cX1_dataOf 11 = .ok (.iload_n 1, 1) := by decide +kernel
theorem dX1_dataOf_12 : decode cX1_dataOf 12 = .ok (.iconst 5, 1) := by decide +kernel
theorem dX1_dataOf_13 : decode cX1_dataOf 13 = .ok (.iload_n 3, 1) := by decide +kernel
theorem dX1_dataOf_14 : decode cX1_dataOf 14 = .ok (.iadd, 1) := by decide +kernel
theorem dX1_dataOf_15 : decode cX1_dataOf 15 = .ok (.invokevirtual 78, 3) := by decide +kernel
theorem dX1_dataOf_18 : decode cX1_dataOf 18 = .ok (.sipush 255, 3) := by decide +kernel
theorem dX1_dataOf_21 : decode cX1_dataOf 21 = .ok (.iand, 1) := by decide +kernel
theorem dX1_dataOf_22 : decode cX1_dataOf 22 = .ok (.bipush 8, 2) := by decide +kernel
theorem dX1_dataOf_24 : decode cX1_dataOf 24 = .ok (.iload_n 3, 1) := by decide +kernel
theorem dX1_dataOf_25 : decode cX1_dataOf 25 = .ok (.imul, 1) := by decide +kernel
theorem dX1_dataOf_26 : decode cX1_dataOf 26 = .ok (.ishl, 1) := by decide +kernel
theorem dX1_dataOf_27 : decode cX1_dataOf 27 = .ok (.ior, 1) := by decide +kernel
theorem dX1_dataOf_28 : decode cX1_dataOf 28 = .ok (.istore_n 2, 1) := by decide +kernel
theorem dX1_dataOf_29 : decode cX1_dataOf 29 = .ok (.iinc 3 1, 3) := by decide +kernel
theorem dX1_dataOf_32 : decode cX1_dataOf 32 = .ok (.goto (-28), 3) := by decide +kernel
theorem dX1_dataOf_35 : decode cX1_dataOf 35 = .ok (.iload_n 2, 1) := by decide +kernel
theorem dX1_dataOf_36 : decode cX1_dataOf 36 = .ok (.ireturn, 1) := by decide +kernel
