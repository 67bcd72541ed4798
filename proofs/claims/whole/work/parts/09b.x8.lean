set_option maxRecDepth 20000 in
theorem ggX8_init_Jx4a65c_init_da8c8 : GoodIn wsX8_init wsJx4a65c_init_da8c8 := goodIn_r _ [19, 20, 21, 22, 23, 24, 25, 26, 27, 28, 29, 30, 31, 2, 3, 43, 44, 45] (by decide +kernel) (by decide +kernel)
set_option maxRecDepth 20000 in
theorem gX8_init_Jx4a65c_init_da8c8 : GoodIn wsX8_init (wsJx4a65c_init_da8c8) := ggX8_init_Jx4a65c_init_da8c8
theorem dX8_init_0 : decode cX8_init 0 = .ok (.aload_n 0, 1) := by decide +kernel
theorem dX8_init_1 : decode cX8_init 1 = .ok (.invokespecial 3, 3) := by decide +kernel
theorem dX8_init_4 : decode cX8_init 4 = .ok (.aload_n 0, 1) := by decide +kernel
theorem dX8_init_5 : decode cX8_init 5 = .ok (.bipush 16, 2) := by decide +kernel
theorem dX8_init_7 : decode cX8_init 7 = .ok (.newarray .int, 2) := by decide +kernel
theorem dX8_init_9 : decode cX8_init 9 = .ok (.dup, 1) := by decide +kernel
theorem dX8_init_10 : decode cX8_init 10 = .ok (.iconst 0, 1) := by decide +kernel
theorem dX8_init_11 : decode cX8_init 11 = .ok (.bipush 10, 2) := by decide +kernel
theorem dX8_init_13 : decode cX8_init 13 = .ok (.iastore, 1) := by decide +kernel
theorem dX8_init_14 : decode cX8_init 14 = .ok (.dup, 1) := by decide +kernel
theorem dX8_init_15 : decode cX8_init 15 = .ok (.iconst 1, 1) := by decide +kernel
theorem dX8_init_16 : decode cX8_init 16 = .ok (.bipush 11, 2) := by decide +kernel
theorem dX8_init_18 : decode cX8_init 18 = .ok (.iastore, 1) := by decide +kernel
theorem dX8_init_19 : decode cX8_init 19 = .ok (.dup, 1) := by decide +kernel
theorem dX8_init_20 : decode cX8_init 20 = .ok (.iconst 2, 1) := by decide +kernel
theorem dX8_init_21 : decode cX8_init 21 = .ok (.bipush 18, 2) := by decide +kernel
theorem dX8_init_23 : decode cX8_init 23 = .ok (.iastore, 1) := by decide +kernel
theorem dX8_init_24 : decode cX8_init 24 = .ok (.dup, 1) := by decide +kernel
theorem dX8_init_25 : decode cX8_init 25 = .ok (.iconst 3, 1) := by decide +kernel
theorem dX8_init_26 : decode cX8_init 26 = .ok (.bipush 19, 2) := by decide +kernel
theorem dX8_init_28 : decode cX8_init 28 = .ok (.iastore, 1) := by decide +kernel
theorem dX8_init_29 : decode cX8_init 29 = .ok (.dup, 1) := by decide +kernel
theorem dX8_init_30 : decode cX8_init 30 = .ok (.iconst 4, 1) := by decide +kernel
theorem dX8_init_31 : decode cX8_init 31 = .ok (.bipush 14, 2) := by decide +kernel
theorem dX8_init_33 : decode cX8_init 33 = .ok (.iastore, 1) := by decide +kernel
theorem dX8_init_34 : decode cX8_init 34 = .ok (.dup, 1) := by decide +kernel
theorem dX8_init_35 : decode cX8_init 35 = .ok (.iconst 5, 1) := by decide +kernel
theorem dX8_init_36 : decode cX8_init 36 = .ok (.bipush 15, 2) := by decide +kernel
theorem dX8_init_38 : decode cX8_init 38 = .ok (.iastore, 1) := by decide +kernel
theorem dX8_init_39 : decode cX8_init 39 = .ok (.dup, 1) := by decide +kernel
theorem dX8_init_40 : decode cX8_init 40 = .ok (.bipush 6, 2) := by decide +kernel
theorem dX8_init_42 : decode cX8_init 42 = .ok (.bipush 22, 2) := by decide +kernel
theorem dX8_init_44 : decode cX8_init 44 = .ok (.iastore, 1) := by decide +kernel
theorem dX8_init_45 : decode cX8_init 45 = .ok (.dup, 1) := by decide +kernel
theorem dX8_init_46 : decode cX8_init 46 = .ok (.bipush 7, 2) := by decide +kernel
theorem dX8_init_48 : decode cX8_init 48 = .ok (.bipush 23, 2) := by decide +kernel
theorem dX8_init_50 : decode cX8_init 50 = .ok (.iastore, 1) := by decide +kernel
theorem dX8_init_51 : decode cX8_init 51 = .ok (.dup, 1) := by decide +kernel
theorem dX8_init_52 : decode cX8_init 52 = .ok (.bipush 8, 2) := by decide +kernel
theorem dX8_init_54 : decode cX8_init 54 = .ok (.bipush 9, 2) := by decide +kernel
theorem dX8_init_56 : decode cX8_init 56 = .ok (.iastore, 1) := by decide +kernel
theorem dX8_init_57 : decode cX8_init 57 = .ok (.dup, 1) := by decide +kernel
theorem dX8_init_58 : decode cX8_init 58 = .ok (.bipush 9, 2) := by decide +kernel
theorem dX8_init_60 : decode cX8_init 60 = .ok (.bipush 25, 2) := by decide +kernel
theorem dX8_init_62 : decode cX8_init 62 = .ok (.iastore, 1) := by decide +kernel
theorem dX8_init_63 : decode cX8_init 63 = .ok (.dup, 1) := by decide +kernel
theorem dX8_init_64 : decode cX8_init 64 = .ok (.bipush 10, 2) := by decide +kernel
theorem dX8_init_66 : decode cX8_init 66 = .ok (.bipush 26, 2) := by decide +kernel
theorem dX8_init_68 : decode cX8_init 68 = .ok (.iastore, 1) := by decide +kernel
theorem dX8_init_69 : decode cX8_init 69 = .ok (.dup, 1) := by decide +kernel
theorem dX8_init_70 : decode cX8_init 70 = .ok (.bipush 11, 2) := by decide +kernel
theorem dX8_init_72 : decode cX8_init 72 = .ok (.bipush 27, 2) := by decide +kernel
theorem dX8_init_74 : decode cX8_init 74 = .ok (.iastore, 1) := by decide +kernel
theorem dX8_init_75 : decode cX8_init 75 = .ok (.dup, 1) := by decide +kernel
theorem dX8_init_76 : decode cX8_init 76 = .ok (.bipush 12, 2) := by decide +kernel
theorem dX8_init_78 : decode cX8_init 78 = .ok (.bipush 13, 2) := by decide +kernel
theorem dX8_init_80 : decode cX8_init 80 = .ok (.iastore, 1) := by decide +kernel
theorem dX8_init_81 : decode cX8_init 81 = .ok (.dup, 1) := by decide +kernel
theorem dX8_init_82 : decode cX8_init 82 = .ok (.bipush 13, 2) := by decide +kernel
theorem dX8_init_84 : decode cX8_init 84 = .ok (.bipush 29, 2) := by decide +kernel
theorem dX8_init_86 : decode cX8_init 86 = .ok (.iastore, 1) := by decide +kernel
theorem dX8_init_87 : decode cX8_init 87 = .ok (.dup, 1) := by decide +kernel
theorem dX8_init_88 : decode cX8_init 88 = .ok (.bipush 14, 2) := by decide +kernel
theorem dX8_init_90 : decode cX8_init 90 = .ok (.bipush 30, 2) := by decide +kernel
theorem dX8_init_92 : decode cX8_init 92 = .ok (.iastore, 1) := by decide +kernel
theorem dX8_init_93 : decode cX8_init 93 = .ok (.dup, 1) := by decide +kernel
theorem dX8_init_94 : decode cX8_init 94 = .ok (.bipush 15, 2) := by decide +kernel
theorem dX8_init_96 : decode cX8_init 96 = .ok (.bipush 21, 2) := by decide +kernel
theorem dX8_init_98 : decode cX8_init 98 = .ok (.iastore, 1) := by decide +kernel
theorem dX8_init_99 : decode cX8_init 99 = .ok (.putfield 9, 3) := by decide +kernel
theorem dX8_init_102 : decode cX8_init 102 = .ok (.aload_n 0, 1) := by decide +kernel
theorem dX8_init_103 : decode cX8_init 103 = .ok (.sipush 400, 3) := by decide +kernel
theorem dX8_init_106 : decode cX8_init 106 = .ok (.newarray .int, 2) := by decide +kernel
theorem dX8_init_108 : decode cX8_init 108 = .ok (.putfield 15, 3) := by decide +kernel
theorem dX8_init_111 : decode cX8_init 111 = .ok (.aload_n 0, 1) := by decide +kernel
theorem dX8_init_112 : decode cX8_init 112 = .ok (.sipush 400, 3) := by decide +kernel
theorem dX8_init_115 : decode cX8_init 115 = .ok (.newarray .int, 2) := by decide +kernel
theorem dX8_init_117 : decode cX8_init 117 = .ok (.putfield 18, 3) := by decide +kernel
theorem dX8_init_120 : decode cX8_init 120 = .ok (.aload_n 0, 1) := by decide +kernel
theorem dX8_init_121 : decode cX8_init 121 = .ok (.sipush 400, 3) := by decide +kernel
theorem dX8_init_124 : decode cX8_init 124 = .ok (.newarray .boolean, 2) := by decide +kernel
theorem dX8_init_126 : decode cX8_init 126 = .ok (.putfield 21, 3) := by decide +kernel
theorem dX8_init_129 : decode cX8_init 129 = .ok (.aload_n 0, 1) := by decide +kernel
theorem dX8_init_130 : decode cX8_init 130 = .ok (.sipush 400, 3) := by decide +kernel
theorem dX8_init_133 : decode cX8_init 133 = .ok (.newarray .int, 2) := by decide +kernel
theorem dX8_init_135 : decode cX8_init 135 = .ok (.putfield 25, 3) := by decide +kernel
theorem dX8_init_138 : decode cX8_init 138 = .ok (.aload_n 0, 1) := by decide +kernel
theorem dX8_init_139 : decode cX8_init 139 = .ok (.sipush 400, 3) := by decide +kernel
theorem dX8_init_142 : decode cX8_init 142 = .ok (.newarray .int, 2) := by decide +kernel
theorem dX8_init_144 : decode cX8_init 144 = .ok (.putfield 28, 3) := by decide +kernel
theorem dX8_init_147 : decode cX8_init 147 = .ok (.aload_n 0, 1) := by decide +kernel
theorem dX8_init_148 : decode cX8_init 148 = .ok (.new 31, 3) := by decide +kernel
theorem dX8_init_151 : decode cX8_init 151 = .ok (.dup, 1) := by decide +kernel
theorem dX8_init_152 : decode cX8_init 152 = .ok (.invokespecial 33, 3) := by decide +kernel
theorem dX8_init_155 : decode cX8_init 155 = .ok (.putfield 34, 3) := by decide +kernel
theorem dX8_init_158 : decode cX8_init 158 = .ok (.aload_n 0, 1) := by decide +kernel
theorem dX8_init_159 : decode cX8_init 159 = .ok (.iload_n 1, 1) := by decide +kernel
theorem dX8_init_160 : decode cX8_init 160 = .ok (.putfield 38, 3) := by decide +kernel
theorem dX8_init_163 : decode cX8_init 163 = .ok (.return_, 1) := by decide +kernel
set_option maxRecDepth 20000 in
theorem ggX8_clear_Jx4a65c_clear_da8c8 : GoodIn wsX8_clear wsJx4a65c_clear_da8c8 := goodIn_r _ [8, 9, 10, 11, 12, 24, 25, 26] (by decide +kernel) (by decide +kernel)
set_option maxRecDepth 20000 in
theorem gX8_clear_Jx4a65c_clear_da8c8 : GoodIn wsX8_clear (wsV RX8 48 RJx4a65c yJx4a65c_clear_da8c8 wsJx4a65c_clear_da8c8) := goodIn_app (goodIn_of _ (by decide +kernel)) ggX8_clear_Jx4a65c_clear_da8c8
theorem dX8_clear_0 : decode cX8_clear 0 = .ok (.aload_n 0, 1) := by decide +kernel
theorem dX8_clear_1 : decode cX8_clear 1 = .ok (.iconst 0, 1) := by decide +kernel
theorem dX8_clear_2 : decode cX8_clear 2 = .ok (.putfield 42, 3) := by decide +kernel
theorem dX8_clear_5 : decode cX8_clear 5 = .ok (.aload_n 0, 1) := by decide +kernel
theorem dX8_clear_6 : decode cX8_clear 6 = .ok (.iconst 0, 1) := by decide +kernel
theorem dX8_clear_7 : decode cX8_clear 7 = .ok (.putfield 45, 3) := by decide +kernel
theorem dX8_clear_10 : decode cX8_clear 10 = .ok (.aload_n 0, 1) := by decide +kernel
theorem dX8_clear_11 : decode cX8_clear 11 = .ok (.getfield 34, 3) := by decide +kernel
theorem dX8_clear_14 : decode cX8_clear 14 = .ok (.invokevirtual 48, 3) := by decide +kernel
theorem dX8_clear_17 : decode cX8_clear 17 = .ok (.return_, 1) := by decide +kernel
theorem dX8_add_0 : decode cX8_add 0 = .ok (.aload_n 0, 1) := by decide +kernel
theorem dX8_add_1 : decode cX8_add 1 = .ok (.getfield 15, 3) := by decide +kernel
theorem dX8_add_4 : decode cX8_add 4 = .ok (.aload_n 0, 1) := by decide +kernel
theorem dX8_add_5 : decode cX8_add 5 = .ok (.getfield 42, 3) := by decide +kernel
theorem dX8_add_8 : decode cX8_add 8 = .ok (.iload_n 1, 1) := by decide +kernel
theorem dX8_add_9 : decode cX8_add 9 = .ok (.iastore, 1) := by decide +kernel
theorem dX8_add_10 : decode cX8_add 10 = .ok (.aload_n 0, 1) := by decide +kernel
theorem dX8_add_11 : decode cX8_add 11 = .ok (.getfield 18, 3) := by decide +kernel
theorem dX8_add_14 : decode cX8_add 14 = .ok (.aload_n 0, 1) := by decide +kernel
theorem dX8_add_15 : decode cX8_add 15 = .ok (.getfield 42, 3) := by decide +kernel
theorem dX8_add_18 : decode cX8_add 18 = .ok (.iload_n 2, 1) := by decide +kernel
theorem dX8_add_19 : decode cX8_add 19 = .ok (.iastore, 1) := by decide +kernel
theorem dX8_add_20 : decode cX8_add 20 = .ok (.aload_n 0, 1) := by decide +kernel
theorem dX8_add_21 : decode cX8_add 21 = .ok (.getfield 21, 3) := by decide +kernel
theorem dX8_add_24 : decode cX8_add 24 = .ok (.aload_n 0, 1) := by decide +kernel
theorem dX8_add_25 : decode cX8_add 25 = .ok (.getfield 42, 3) := by decide +kernel
theorem dX8_add_28 : decode cX8_add 28 = .ok (.iconst 0, 1) := by decide +kernel
theorem dX8_add_29 : decode cX8_add 29 = .ok (.bastore, 1) := by decide +kernel
theorem dX8_add_30 : decode cX8_add 30 = .ok (.aload_n 0, 1) := by decide +kernel
theorem dX8_add_31 : decode cX8_add 31 = .ok (.getfield 25, 3) := by decide +kernel
theorem dX8_add_34 : decode cX8_add 34 = .ok (.aload_n 0, 1) := by decide +kernel
theorem dX8_add_35 : decode cX8_add 35 = .ok (.getfield 42, 3) := by decide +kernel
theorem dX8_add_38 : decode cX8_add 38 = .ok (.iconst 0, 1) := by decide +kernel
theorem dX8_add_39 : decode cX8_add 39 = .ok (.iastore, 1) := by decide +kernel
theorem dX8_add_40 : decode cX8_add 40 = .ok (.aload_n 0, 1) := by decide +kernel
theorem dX8_add_41 : decode cX8_add 41 = .ok (.getfield 28, 3) := by decide +kernel
theorem dX8_add_44 : decode cX8_add 44 = .ok (.aload_n 0, 1) := by decide +kernel
theorem dX8_add_45 : decode cX8_add 45 = .ok (.getfield 42, 3) := by decide +kernel
theorem dX8_add_48 : decode cX8_add 48 = .ok (.iconst 0, 1) := by decide +kernel
theorem dX8_add_49 : decode cX8_add 49 = .ok (.iastore, 1) := by decide +kernel
theorem dX8_add_50 : decode cX8_add 50 = .ok (.aload_n 0, 1) := by decide +kernel
theorem dX8_add_51 : decode cX8_add 51 = .ok (.dup, 1) := by decide +kernel
theorem dX8_add_52 : decode cX8_add 52 = .ok (.getfield 42, 3) := by decide +kernel
theorem dX8_add_55 : decode cX8_add 55 = .ok (.iconst 1, 1) := by decide +kernel
theorem dX8_add_56 : decode cX8_add 56 = .ok (.iadd, 1) := by decide +kernel
theorem dX8_add_57 : decode cX8_add 57 = .ok (.putfield 42, 3) := by decide +kernel
theorem dX8_add_60 : decode cX8_add 60 = .ok (.return_, 1) := by decide +kernel
theorem dX8_byteLong_0 : decode cX8_byteLong 0 = .ok (.aload_n 0, 1) := by decide +kernel
theorem dX8_byteLong_1 : decode cX8_byteLong 1 = .ok (.getfield 38, 3) := by decide +kernel
theorem dX8_byteLong_4 : decode cX8_byteLong 4 = .ok (.iconst 2, 1) := by decide +kernel
theorem dX8_byteLong_5 : decode cX8_byteLong 5 = .ok (.if_icmp .ne 8, 3) := by decide +kernel
theorem dX8_byteLong_8 : decode cX8_byteLong 8 = .ok (.bipush 10, 2) := by decide +kernel
theorem dX8_byteLong_10 : decode cX8_byteLong 10 = .ok (.goto 5, 3) := by decide +kernel
theorem dX8_byteLong_13 : decode cX8_byteLong 13 = .ok (.bipush 16, 2) := by decide +kernel
theorem dX8_byteLong_15 : decode cX8_byteLong 15 = .ok (.ireturn, 1) := by decide +kernel
set_option maxRecDepth 20000 in
theorem ggX8_sectorLong_X8_byteLong : GoodIn wsX8_sectorLong wsX8_byteLong := goodIn_r _ [5, 6, 7, 8, 9, 10, 11, 12, 13, 14, 15, 16, 17] (by decide +kernel) (by decide +kernel)
set_option maxRecDepth 20000 in
theorem gX8_sectorLong_X8_byteLong : GoodIn wsX8_sectorLong (wsV RX8 51 RX8 yX8_byteLong wsX8_byteLong) := goodIn_app (goodIn_of _ (by decide +kernel)) ggX8_sectorLong_X8_byteLong
theorem dX8_sectorLong_0 : decode cX8_sectorLong 0 = .ok (.bipush 11, 2) := by decide +kernel
theorem dX8_sectorLong_2 : decode cX8_sectorLong 2 = .ok (.iconst 3, 1) := by decide +kernel
theorem dX8_sectorLong_3 : decode cX8_sectorLong 3 = .ok (.iload_n 1, 1) := by decide +kernel
theorem dX8_sectorLong_4 : decode cX8_sectorLong 4 = .ok (.iadd, 1) := by decide +kernel
theorem dX8_sectorLong_5 : decode cX8_sectorLong 5 = .ok (.aload_n 0, 1) := by decide +kernel
theorem dX8_sectorLong_6 : decode cX8_sectorLong 6 = .ok (.invokevirtual 51, 3) := by decide +kernel
theorem dX8_sectorLong_9 : decode cX8_sectorLong 9 = .ok (.imul, 1) := by decide +kernel
theorem dX8_sectorLong_10 : decode cX8_sectorLong 10 = .ok (.iadd, 1) := by decide +kernel
theorem dX8_sectorLong_11 : decode cX8_sectorLong 11 = .ok (.ireturn, 1) := by decide +kernel
set_option maxRecDepth 20000 in
theorem ggX8_write_X8_add : GoodIn wsX8_write wsX8_add := goodIn_r _ [8, 9, 10, 11, 12, 13, 14, 15, 16, 17, 18, 19, 20, 21, 22, 23, 24, 25] (by decide +kernel) (by decide +kernel)
set_option maxRecDepth 20000 in
theorem gX8_write_X8_add : GoodIn wsX8_write (wsV RX8 55 RX8 yX8_add wsX8_add) := goodIn_app (goodIn_of _ (by decide +kernel)) ggX8_write_X8_add
theorem dX8_write_0 : decode cX8_write 0 = .ok (.aload_n 0, 1) := by decide +kernel
theorem dX8_write_1 : decode cX8_write 1 = .ok (.getfield 38, 3) := by decide +kernel
theorem dX8_write_4 : decode cX8_write 4 = .ok (.iconst 2, 1) := by decide +kernel
theorem dX8_write_5 : decode cX8_write 5 = .ok (.if_icmp .ne 53, 3) := by decide +kernel
theorem dX8_write_8 : decode cX8_write 8 = .ok (.aload_n 0, 1) := by decide +kernel
theorem dX8_write_9 : decode cX8_write 9 = .ok (.getfield 9, 3) := by decide +kernel
theorem dX8_write_12 : decode cX8_write 12 = .ok (.iload_n 1, 1) := by decide +kernel
theorem dX8_write_13 : decode cX8_write 13 = .ok (.bipush 16, 2) := by decide +kernel
theorem dX8_write_15 : decode cX8_write 15 = .ok (.idiv, 1) := by decide +kernel
theorem dX8_write_16 : decode cX8_write 16 = .ok (.iaload, 1) := by decide +kernel
theorem dX8_write_17 : decode cX8_write 17 = .ok (.bipush 32, 2) := by decide +kernel
theorem dX8_write_19 : decode cX8_write 19 = .ok (.imul, 1) := by decide +kernel
theorem dX8_write_20 : decode cX8_write 20 = .ok (.aload_n 0, 1) := by decide +kernel
theorem dX8_write_21 : decode cX8_write 21 = .ok (.getfield 9, 3) := by decide +kernel
theorem dX8_write_24 : decode cX8_write 24 = .ok (.iload_n 1, 1) := by decide +kernel
theorem dX8_write_25 : decode cX8_write 25 = .ok (.bipush 16, 2) := by decide +kernel
theorem dX8_write_27 : decode cX8_write 27 = .ok (.irem, 1) := by decide +kernel
theorem dX8_write_28 : decode cX8_write 28 = .ok (.iaload, 1) := by decide +kernel
theorem dX8_write_29 : decode cX8_write 29 = .ok (.iadd, 1) := by decide +kernel
theorem dX8_write_30 : decode cX8_write 30 = .ok (.istore_n 3, 1) := by decide +kernel
theorem dX8_write_31 : decode cX8_write 31 = .ok (.bipush 9, 2) := by decide +kernel
theorem dX8_write_33 : decode cX8_write 33 = .ok (.istore 4, 2) := by decide +kernel
theorem dX8_write_35 : decode cX8_write 35 = .ok (.iload 4, 2) := by decide +kernel
theorem dX8_write_37 : decode cX8_write 37 = .ok (.ifCond .lt 20, 3) := by decide +kernel
theorem dX8_write_40 : decode cX8_write 40 = .ok (.aload_n 0, 1) := by decide +kernel
theorem dX8_write_41 : decode cX8_write 41 = .ok (.iload_n 3, 1) := by decide +kernel
theorem dX8_write_42 : decode cX8_write 42 = .ok (.iload 4, 2) := by decide +kernel
theorem dX8_write_44 : decode cX8_write 44 = .ok (.ishr, 1) := by decide +kernel
theorem dX8_write_45 : decode cX8_write 45 = .ok (.iconst 1, 1) := by decide +kernel
theorem dX8_write_46 : decode cX8_write 46 = .ok (.iand, 1) := by decide +kernel
theorem dX8_write_47 : decode cX8_write 47 = .ok (.iload_n 2, 1) := by decide +kernel
theorem dX8_write_48 : decode cX8_write 48 = .ok (.invokevirtual 55, 3) := by decide +kernel
theorem dX8_write_51 : decode cX8_write 51 = .ok (.iinc 4 (-1), 3) := by decide +kernel
theorem dX8_write_54 : decode cX8_write 54 = .ok (.goto (-19), 3) := by decide +kernel
theorem dX8_write_57 : decode cX8_write 57 = .ok (.return_, 1) := by decide +kernel
theorem dX8_write_58 : decode cX8_write 58 = .ok (.bipush 7, 2) := by decide +kernel
theorem dX8_write_60 : decode cX8_write 60 = .ok (.istore_n 3, 1) := by decide +kernel
theorem dX8_write_61 : decode cX8_write 61 = .ok (.iload_n 3, 1) := by decide +kernel
theorem dX8_write_62 : decode cX8_write 62 = .ok (.ifCond .lt 58, 3) := by decide +kernel
theorem dX8_write_65 : decode cX8_write 65 = .ok (.iload_n 1, 1) := by decide +kernel
theorem dX8_write_66 : decode cX8_write 66 = .ok (.iload_n 3, 1) := by decide +kernel
theorem dX8_write_67 : decode cX8_write 67 = .ok (.ishr, 1) := by decide +kernel
theorem dX8_write_68 : decode cX8_write 68 = .ok (.iconst 1, 1) := by decide +kernel
theorem dX8_write_69 : decode cX8_write 69 = .ok (.iand, 1) := by decide +kernel
theorem dX8_write_70 : decode cX8_write 70 = .ok (.istore 4, 2) := by decide +kernel
theorem dX8_write_72 : decode cX8_write 72 = .ok (.aload_n 0, 1) := by decide +kernel
theorem dX8_write_73 : decode cX8_write 73 = .ok (.aload_n 0, 1) := by decide +kernel
theorem dX8_write_74 : decode cX8_write 74 = .ok (.getfield 38, 3) := by decide +kernel
theorem dX8_write_77 : decode cX8_write 77 = .ok (.ifCond .eq 15, 3) := by decide +kernel
theorem dX8_write_80 : decode cX8_write 80 = .ok (.iload 4, 2) := by decide +kernel
theorem dX8_write_82 : decode cX8_write 82 = .ok (.ifCond .ne 14, 3) := by decide +kernel
theorem dX8_write_85 : decode cX8_write 85 = .ok (.aload_n 0, 1) := by decide +kernel
theorem dX8_write_86 : decode cX8_write 86 = .ok (.getfield 45, 3) := by decide +kernel
theorem dX8_write_89 : decode cX8_write 89 = .ok (.ifCond .ne 7, 3) := by decide +kernel
theorem dX8_write_92 : decode cX8_write 92 = .ok (.iconst 1, 1) := by decide +kernel
theorem dX8_write_93 : decode cX8_write 93 = .ok (.goto 4, 3) := by decide +kernel
theorem dX8_write_96 : decode cX8_write 96 = .ok (.iconst 0, 1) := by decide +kernel
theorem dX8_write_97 : decode cX8_write 97 = .ok (.iload_n 2, 1) := by decide +kernel
theorem dX8_write_98 : decode cX8_write 98 = .ok (.invokevirtual 55, 3) := by decide +kernel
theorem dX8_write_101 : decode cX8_write 101 = .ok (.aload_n 0, 1) := by decide +kernel
theorem dX8_write_102 : decode cX8_write 102 = .ok (.iload 4, 2) := by decide +kernel
theorem dX8_write_104 : decode cX8_write 104 = .ok (.iload_n 2, 1) := by decide +kernel
theorem dX8_write_105 : decode cX8_write 105 = .ok (.invokevirtual 55, 3) := by decide +kernel
theorem dX8_write_108 : decode cX8_write 108 = .ok (.aload_n 0, 1) := by decide +kernel
theorem dX8_write_109 : decode cX8_write 109 = .ok (.iload 4, 2) := by decide +kernel
theorem dX8_write_111 : decode cX8_write 111 = .ok (.putfield 45, 3) := by decide +kernel
theorem dX8_write_114 : decode cX8_write 114 = .ok (.iinc 3 (-1), 3) := by decide +kernel
theorem dX8_write_117 : decode cX8_write 117 = .ok (.goto (-56), 3) := by decide +kernel
theorem dX8_write_120 : decode cX8_write 120 = .ok (.return_, 1) := by decide +kernel
set_option maxRecDepth 20000 in
theorem ggX8_mark_X8_add : GoodIn wsX8_mark wsX8_add := goodIn_r _ [6, 7, 8, 9, 10, 11, 12, 13, 14, 15, 16, 17, 18, 19, 20, 21, 22, 23] (by decide +kernel) (by decide +kernel)
set_option maxRecDepth 20000 in
theorem gX8_mark_X8_add : GoodIn wsX8_mark (wsV RX8 55 RX8 yX8_add wsX8_add) := goodIn_app (goodIn_of _ (by decide +kernel)) ggX8_mark_X8_add
theorem dX8_mark_0 : decode cX8_mark 0 = .ok (.iconst 0, 1) := by decide +kernel
theorem dX8_mark_1 : decode cX8_mark 1 = .ok (.istore_n 2, 1) := by decide +kernel
theorem dX8_mark_2 : decode cX8_mark 2 = .ok (.iload_n 2, 1) := by decide +kernel
theorem dX8_mark_3 : decode cX8_mark 3 = .ok (.bipush 10, 2) := by decide +kernel
theorem dX8_mark_5 : decode cX8_mark 5 = .ok (.if_icmp .ge 34, 3) := by decide +kernel
theorem dX8_mark_8 : decode cX8_mark 8 = .ok (.aload_n 0, 1) := by decide +kernel
theorem dX8_mark_9 : decode cX8_mark 9 = .ok (.iload_n 2, 1) := by decide +kernel
theorem dX8_mark_10 : decode cX8_mark 10 = .ok (.ifCond .eq 14, 3) := by decide +kernel
theorem dX8_mark_13 : decode cX8_mark 13 = .ok (.iload_n 2, 1) := by decide +kernel
theorem dX8_mark_14 : decode cX8_mark 14 = .ok (.iconst 5, 1) := by decide +kernel
theorem dX8_mark_15 : decode cX8_mark 15 = .ok (.if_icmp .eq 9, 3) := by decide +kernel
theorem dX8_mark_18 : decode cX8_mark 18 = .ok (.iload_n 2, 1) := by decide +kernel
theorem dX8_mark_19 : decode cX8_mark 19 = .ok (.bipush 9, 2) := by decide +kernel
theorem dX8_mark_21 : decode cX8_mark 21 = .ok (.if_icmp .ne 7, 3) := by decide +kernel
theorem dX8_mark_24 : decode cX8_mark 24 = .ok (.iconst 1, 1) := by decide +kernel
theorem dX8_mark_25 : decode cX8_mark 25 = .ok (.goto 4, 3) := by decide +kernel
theorem dX8_mark_28 : decode cX8_mark 28 = .ok (.iconst 0, 1) := by decide +kernel
theorem dX8_mark_29 : decode cX8_mark 29 = .ok (.iload_n 1, 1) := by decide +kernel
theorem dX8_mark_30 : decode cX8_mark 30 = .ok (.invokevirtual 55, 3) := by decide +kernel
theorem dX8_mark_33 : decode cX8_mark 33 = .ok (.iinc 2 1, 3) := by decide +kernel
theorem dX8_mark_36 : decode cX8_mark 36 = .ok (.goto (-34), 3) := by decide +kernel
theorem dX8_mark_39 : decode cX8_mark 39 = .ok (.aload_n 0, 1) := by decide +kernel
theorem dX8_mark_40 : decode cX8_mark 40 = .ok (.iconst 0, 1) := by decide +kernel
theorem dX8_mark_41 : decode cX8_mark 41 = .ok (.putfield 45, 3) := by decide +kernel
theorem dX8_mark_44 : decode cX8_mark 44 = .ok (.return_, 1) := by decide +kernel
set_option maxRecDepth 20000 in
theorem ggX8_sector_X8_mark : GoodIn wsX8_sector wsX8_mark := goodIn_r _ [5, 6, 7, 8, 9, 4, 10, 11, 12, 13, 14, 15, 16, 23, 24, 25, 26, 27, 28, 29, 30, 31, 32, 33] (by decide +kernel) (by decide +kernel)
set_option maxRecDepth 20000 in
theorem gX8_sector_X8_mark : GoodIn wsX8_sector (wsV RX8 59 RX8 yX8_mark wsX8_mark) := goodIn_app (goodIn_of _ (by decide +kernel)) ggX8_sector_X8_mark
set_option maxRecDepth 20000 in
theorem ggX8_sector_X8_write : GoodIn wsX8_sector wsX8_write := goodIn_r _ [20, 21, 22, 6, 7, 8, 9, 4, 10, 11, 12, 13, 14, 15, 16, 23, 24, 25, 26, 27, 28, 29, 30, 31, 32, 33] (by decide +kernel) (by decide +kernel)
set_option maxRecDepth 20000 in
theorem gX8_sector_X8_write : GoodIn wsX8_sector (wsV RX8 63 RX8 yX8_write wsX8_write) := goodIn_app (goodIn_of _ (by decide +kernel)) ggX8_sector_X8_write
set_option maxRecDepth 20000 in
theorem ggX8_sector_X8_add : GoodIn wsX8_sector wsX8_add := goodIn_r _ [10, 11, 12, 13, 14, 15, 16, 23, 24, 25, 26, 27, 28, 29, 30, 31, 32, 33] (by decide +kernel) (by decide +kernel)
set_option maxRecDepth 20000 in
theorem gX8_sector_X8_add : GoodIn wsX8_sector (wsV RX8 55 RX8 yX8_add wsX8_add) := goodIn_app (goodIn_of _ (by decide +kernel)) ggX8_sector_X8_add
theorem dX8_sector_0 : decode cX8_sector 0 = .ok (.aload_n 0, 1) := by decide +kernel
theorem dX8_sector_1 : decode cX8_sector 1 = .ok (.iload 5, 2) := by decide +kernel
theorem dX8_sector_3 : decode cX8_sector 3 = .ok (.invokevirtual 59, 3) := by decide +kernel
theorem dX8_sector_6 : decode cX8_sector 6 = .ok (.aload_n 0, 1) := by decide +kernel
theorem dX8_sector_7 : decode cX8_sector 7 = .ok (.iload_n 1, 1) := by decide +kernel
theorem dX8_sector_8 : decode cX8_sector 8 = .ok (.iload 5, 2) := by decide +kernel
theorem dX8_sector_10 : decode cX8_sector 10 = .ok (.invokevirtual 63, 3) := by decide +kernel
theorem dX8_sector_13 : decode cX8_sector 13 = .ok (.aload_n 0, 1) := by decide +kernel
theorem dX8_sector_14 : decode cX8_sector 14 = .ok (.iload_n 2, 1) := by decide +kernel
theorem dX8_sector_15 : decode cX8_sector 15 = .ok (.iload 5, 2) := by decide +kernel
theorem dX8_sector_17 : decode cX8_sector 17 = .ok (.invokevirtual 63, 3) := by decide +kernel
theorem dX8_sector_20 : decode cX8_sector 20 = .ok (.iload_n 1, 1) := by decide +kernel
theorem dX8_sector_21 : decode cX8_sector 21 = .ok (.iload_n 2, 1) := by decide +kernel
theorem dX8_sector_22 : decode cX8_sector 22 = .ok (.iadd, 1) := by decide +kernel
theorem dX8_sector_23 : decode cX8_sector 23 = .ok (.iload 4, 2) := by decide +kernel
theorem dX8_sector_25 : decode cX8_sector 25 = .ok (.iadd, 1) := by decide +kernel
theorem dX8_sector_26 : decode cX8_sector 26 = .ok (.istore 6, 2) := by decide +kernel
theorem dX8_sector_28 : decode cX8_sector 28 = .ok (.iconst 0, 1) := by decide +kernel
theorem dX8_sector_29 : decode cX8_sector 29 = .ok (.istore 7, 2) := by decide +kernel
theorem dX8_sector_31 : decode cX8_sector 31 = .ok (.iload 7, 2) := by decide +kernel
theorem dX8_sector_33 : decode cX8_sector 33 = .ok (.iload_n 2, 1) := by decide +kernel
theorem dX8_sector_34 : decode cX8_sector 34 = .ok (.if_icmp .ge 28, 3) := by decide +kernel
theorem dX8_sector_37 : decode cX8_sector 37 = .ok (.aload_n 0, 1) := by decide +kernel
theorem dX8_sector_38 : decode cX8_sector 38 = .ok (.aload_n 3, 1) := by decide +kernel
theorem dX8_sector_39 : decode cX8_sector 39 = .ok (.iload 7, 2) := by decide +kernel
theorem dX8_sector_41 : decode cX8_sector 41 = .ok (.iaload, 1) := by decide +kernel
theorem dX8_sector_42 : decode cX8_sector 42 = .ok (.iload 5, 2) := by decide +kernel
theorem dX8_sector_44 : decode cX8_sector 44 = .ok (.invokevirtual 63, 3) := by decide +kernel
theorem dX8_sector_47 : decode cX8_sector 47 = .ok (.iload 6, 2) := by decide +kernel
theorem dX8_sector_49 : decode cX8_sector 49 = .ok (.aload_n 3, 1) := by decide +kernel
theorem dX8_sector_50 : decode cX8_sector 50 = .ok (.iload 7, 2) := by decide +kernel
theorem dX8_sector_52 : decode cX8_sector 52 = .ok (.iaload, 1) := by decide +kernel
theorem dX8_sector_53 : decode cX8_sector 53 = .ok (.iadd, 1) := by decide +kernel
theorem dX8_sector_54 : decode cX8_sector 54 = .ok (.istore 6, 2) := by decide +kernel
theorem dX8_sector_56 : decode cX8_sector 56 = .ok (.iinc 7 1, 3) := by decide +kernel
theorem dX8_sector_59 : decode cX8_sector 59 = .ok (.goto (-28), 3) := by decide +kernel
theorem dX8_sector_62 : decode cX8_sector 62 = .ok (.aload_n 0, 1) := by decide +kernel
theorem dX8_sector_63 : decode cX8_sector 63 = .ok (.iload 6, 2) := by decide +kernel
theorem dX8_sector_65 : decode cX8_sector 65 = .ok (.sipush 256, 3) := by decide +kernel
theorem dX8_sector_68 : decode cX8_sector 68 = .ok (.irem, 1) := by decide +kernel
theorem dX8_sector_69 : decode cX8_sector 69 = .ok (.iload 5, 2) := by decide +kernel
theorem dX8_sector_71 : decode cX8_sector 71 = .ok (.invokevirtual 63, 3) := by decide +kernel
theorem dX8_sector_74 : decode cX8_sector 74 = .ok (.aload_n 0, 1) := by decide +kernel
theorem dX8_sector_75 : decode cX8_sector 75 = .ok (.iconst 1, 1) := by decide +kernel
theorem dX8_sector_76 : decode cX8_sector 76 = .ok (.iload 5, 2) := by decide +kernel
theorem dX8_sector_78 : decode cX8_sector 78 = .ok (.invokevirtual 55, 3) := by decide +kernel
theorem dX8_sector_81 : decode cX8_sector 81 = .ok (.return_, 1) := by decide +kernel
theorem dX8_sum_0 : decode cX8_sum 0 = .ok (.iconst 0, 1) := by decide +kernel
theorem dX8_sum_1 : decode cX8_sum 1 = .ok (.istore_n 2, 1) := by decide +kernel
theorem dX8_sum_2 : decode cX8_sum 2 = .ok (.iconst 0, 1) := by decide +kernel
theorem dX8_sum_3 : decode cX8_sum 3 = .ok (.istore_n 3, 1) := by decide +kernel
theorem dX8_sum_4 : decode cX8_sum 4 = .ok (.iload_n 3, 1) := by decide +kernel
theorem dX8_sum_5 : decode cX8_sum 5 = .ok (.aload_n 0, 1) := by decide +kernel
theorem dX8_sum_6 : decode cX8_sum 6 = .ok (.getfield 42, 3) := by decide +kernel
theorem dX8_sum_9 : decode cX8_sum 9 = .ok (.if_icmp .ge 40, 3) := by decide +kernel
theorem dX8_sum_12 : decode cX8_sum 12 = .ok (.iload_n 2, 1) := by decide +kernel
theorem dX8_sum_13 : decode cX8_sum 13 = .ok (.iload_n 1, 1) := by decide +kernel
theorem dX8_sum_14 : decode cX8_sum 14 = .ok (.ifCond .ne 12, 3) := by decide +kernel
theorem dX8_sum_17 : decode cX8_sum 17 = .ok (.aload_n 0, 1) := by decide +kernel
theorem dX8_sum_18 : decode cX8_sum 18 = .ok (.getfield 18, 3) := by decide +kernel
theorem dX8_sum_21 : decode cX8_sum 21 = .ok (.iload_n 3, 1) := by decide +kernel
theorem dX8_sum_22 : decode cX8_sum 22 = .ok (.iaload, 1) := by decide +kernel
theorem dX8_sum_23 : decode cX8_sum 23 = .ok (.goto 18, 3) := by decide +kernel
theorem dX8_sum_26 : decode cX8_sum 26 = .ok (.aload_n 0, 1) := by decide +kernel
theorem dX8_sum_27 : decode cX8_sum 27 = .ok (.getfield 25, 3) := by decide +kernel
theorem dX8_sum_30 : decode cX8_sum 30 = .ok (.iload_n 3, 1) := by decide +kernel
theorem dX8_sum_31 : decode cX8_sum 31 = .ok (.iaload, 1) := by decide +kernel
theorem dX8_sum_32 : decode cX8_sum 32 = .ok (.iload_n 1, 1) := by decide +kernel
theorem dX8_sum_33 : decode cX8_sum 33 = .ok (.if_icmp .ne 7, 3) := by decide +kernel
theorem dX8_sum_36 : decode cX8_sum 36 = .ok (.iconst 1, 1) := by decide +kernel
theorem dX8_sum_37 : decode cX8_sum 37 = .ok (.goto 4, 3) := by decide +kernel
theorem dX8_sum_40 : decode cX8_sum 40 = .ok (.iconst 0, 1) := by decide +kernel
theorem dX8_sum_41 : decode cX8_sum 41 = .ok (.iadd, 1) := by decide +kernel
theorem dX8_sum_42 : decode cX8_sum 42 = .ok (.istore_n 2, 1) := by decide +kernel
theorem dX8_sum_43 : decode cX8_sum 43 = .ok (.iinc 3 1, 3) := by decide +kernel
theorem dX8_sum_46 : decode cX8_sum 46 = .ok (.goto (-42), 3) := by decide +kernel
theorem dX8_sum_49 : decode cX8_sum 49 = .ok (.iload_n 2, 1) := by decide +kernel
theorem dX8_sum_50 : decode cX8_sum 50 = .ok (.ireturn, 1) := by decide +kernel
set_option maxRecDepth 20000 in
theorem ggX8_shortest_Jx4a65c_isEmpty_aae02 : GoodIn wsX8_shortest wsJx4a65c_isEmpty_aae02 := goodIn_r _ [11, 12, 59, 60, 61] (by decide +kernel) (by decide +kernel)
set_option maxRecDepth 20000 in
theorem gX8_shortest_Jx4a65c_isEmpty_aae02 : GoodIn wsX8_shortest (wsV RX8 66 RJx4a65c yJx4a65c_isEmpty_aae02 wsJx4a65c_isEmpty_aae02) := goodIn_app (goodIn_of _ (by decide +kernel)) ggX8_shortest_Jx4a65c_isEmpty_aae02
set_option maxRecDepth 20000 in
theorem ggX8_shortest_Jx4a65c_iterator_32c93 : GoodIn wsX8_shortest wsJx4a65c_iterator_32c93 := goodIn_r _ [16, 17, 18, 19, 20, 21, 22, 23, 24, 25, 26, 27, 28, 29, 30, 62, 63, 64, 65, 59, 60, 61] (by decide +kernel) (by decide +kernel)
set_option maxRecDepth 20000 in
theorem gX8_shortest_Jx4a65c_iterator_32c93 : GoodIn wsX8_shortest (wsV RX8 70 RJx4a65c yJx4a65c_iterator_32c93 wsJx4a65c_iterator_32c93) := goodIn_app (goodIn_of _ (by decide +kernel)) ggX8_shortest_Jx4a65c_iterator_32c93
set_option maxRecDepth 20000 in
theorem ggX8_shortest_Jx35411_hasNext_aae02 : GoodIn wsX8_shortest wsJx35411_hasNext_aae02 := goodIn_r _ [34, 35, 23, 62, 63, 64, 65, 59, 60, 61] (by decide +kernel) (by decide +kernel)
set_option maxRecDepth 20000 in
theorem gX8_shortest_Jx35411_hasNext_aae02_f74Jx35411 : GoodIn wsX8_shortest (va_wsF RX8 74 RJx35411 ⟨"java/util/Iterator", "hasNext", "()Z"⟩ yJx35411_hasNext_aae02 wsJx35411_hasNext_aae02) := goodIn_app (goodIn_of _ (by decide +kernel)) ggX8_shortest_Jx35411_hasNext_aae02
set_option maxRecDepth 20000 in
theorem ggX8_shortest_Jx35411_next_0502b : GoodIn wsX8_shortest wsJx35411_next_0502b := goodIn_r _ [39, 35, 23, 40, 27, 41, 42, 43, 19, 44, 28, 29, 30, 62, 63, 64, 65, 59, 60, 61] (by decide +kernel) (by decide +kernel)
set_option maxRecDepth 20000 in
theorem gX8_shortest_Jx35411_next_0502b_f79Jx35411 : GoodIn wsX8_shortest (va_wsF RX8 79 RJx35411 ⟨"java/util/Iterator", "next", "()Ljava/lang/Object;"⟩ yJx35411_next_0502b wsJx35411_next_0502b) := goodIn_app (goodIn_of _ (by decide +kernel)) ggX8_shortest_Jx35411_next_0502b
theorem dX8_shortest_0 : decode cX8_shortest 0 = .ok (.aload_n 0, 1) := by decide +kernel
theorem dX8_shortest_1 : decode cX8_shortest 1 = .ok (.getfield 34, 3) := by decide +kernel
theorem dX8_shortest_4 : decode cX8_shortest 4 = .ok (.invokevirtual 66, 3) := by decide +kernel
theorem dX8_shortest_7 : decode cX8_shortest 7 = .ok (.ifCond .eq 7, 3) := by decide +kernel
theorem dX8_shortest_10 : decode cX8_shortest 10 = .ok (.iconst 0, 1) := by decide +kernel
theorem dX8_shortest_11 : decode cX8_shortest 11 = .ok (.goto 6, 3) := by decide +kernel
theorem dX8_shortest_14 : decode cX8_shortest 14 = .ok (.sipush 400, 3) := by decide +kernel
theorem dX8_shortest_17 : decode cX8_shortest 17 = .ok (.istore_n 1, 1) := by decide +kernel
theorem dX8_shortest_18 : decode cX8_shortest 18 = .ok (.aload_n 0, 1) := by decide +kernel
theorem dX8_shortest_19 : decode cX8_shortest 19 = .ok (.getfield 34, 3) := by decide +kernel
theorem dX8_shortest_22 : decode cX8_shortest 22 = .ok (.invokevirtual 70, 3) := by decide +kernel
theorem dX8_shortest_25 : decode cX8_shortest 25 = .ok (.astore_n 2, 1) := by decide +kernel
theorem dX8_shortest_26 : decode cX8_shortest 26 = .ok (.aload_n 2, 1) := by decide +kernel
theorem dX8_shortest_27 : decode cX8_shortest 27 = .ok (.invokeinterface 74 1, 5) := by decide +kernel
theorem dX8_shortest_32 : decode cX8_shortest 32 = .ok (.ifCond .eq 25, 3) := by decide +kernel
theorem dX8_shortest_35 : decode cX8_shortest 35 = .ok (.aload_n 2, 1) := by decide +kernel
theorem dX8_shortest_36 : decode cX8_shortest 36 = .ok (.invokeinterface 79 1, 5) := by decide +kernel
theorem dX8_shortest_41 : decode cX8_shortest 41 = .ok (.checkcast 83, 3) := by decide +kernel
theorem dX8_shortest_44 : decode cX8_shortest 44 = .ok (.astore_n 3, 1) := by decide +kernel
theorem dX8_shortest_45 : decode cX8_shortest 45 = .ok (.iload_n 1, 1) := by decide +kernel
theorem dX8_shortest_46 : decode cX8_shortest 46 = .ok (.aload_n 3, 1) := by decide +kernel
theorem dX8_shortest_47 : decode cX8_shortest 47 = .ok (.getfield 85, 3) := by decide +kernel
theorem dX8_shortest_50 : decode cX8_shortest 50 = .ok (.invokestatic 86, 3) := by decide +kernel
theorem dX8_shortest_53 : decode cX8_shortest 53 = .ok (.istore_n 1, 1) := by decide +kernel
theorem dX8_shortest_54 : decode cX8_shortest 54 = .ok (.goto (-28), 3) := by decide +kernel
theorem dX8_shortest_57 : decode cX8_shortest 57 = .ok (.iload_n 1, 1) := by decide +kernel
theorem dX8_shortest_58 : decode cX8_shortest 58 = .ok (.ireturn, 1) := by decide +kernel
set_option maxRecDepth 20000 in
theorem ggX8_longest_Jx4a65c_iterator_32c93 : GoodIn wsX8_longest wsJx4a65c_iterator_32c93 := goodIn_r _ [11, 12, 13, 14, 15, 16, 17, 18, 19, 20, 21, 22, 23, 24, 25, 54, 55, 56, 57, 58, 59, 60] (by decide +kernel) (by decide +kernel)
set_option maxRecDepth 20000 in
theorem gX8_longest_Jx4a65c_iterator_32c93 : GoodIn wsX8_longest (wsV RX8 70 RJx4a65c yJx4a65c_iterator_32c93 wsJx4a65c_iterator_32c93) := goodIn_app (goodIn_of _ (by decide +kernel)) ggX8_longest_Jx4a65c_iterator_32c93
set_option maxRecDepth 20000 in
theorem ggX8_longest_Jx35411_hasNext_aae02 : GoodIn wsX8_longest wsJx35411_hasNext_aae02 := goodIn_r _ [29, 30, 18, 54, 55, 56, 57, 58, 59, 60] (by decide +kernel) (by decide +kernel)
set_option maxRecDepth 20000 in
theorem gX8_longest_Jx35411_hasNext_aae02_f74Jx35411 : GoodIn wsX8_longest (va_wsF RX8 74 RJx35411 ⟨"java/util/Iterator", "hasNext", "()Z"⟩ yJx35411_hasNext_aae02 wsJx35411_hasNext_aae02) := goodIn_app (goodIn_of _ (by decide +kernel)) ggX8_longest_Jx35411_hasNext_aae02
set_option maxRecDepth 20000 in
theorem ggX8_longest_Jx35411_next_0502b : GoodIn wsX8_longest wsJx35411_next_0502b := goodIn_r _ [34, 30, 18, 35, 22, 36, 37, 38, 14, 39, 23, 24, 25, 54, 55, 56, 57, 58, 59, 60] (by decide +kernel) (by decide +kernel)
set_option maxRecDepth 20000 in
theorem gX8_longest_Jx35411_next_0502b_f79Jx35411 : GoodIn wsX8_longest (va_wsF RX8 79 RJx35411 ⟨"java/util/Iterator", "next", "()Ljava/lang/Object;"⟩ yJx35411_next_0502b wsJx35411_next_0502b) := goodIn_app (goodIn_of _ (by decide +kernel)) ggX8_longest_Jx35411_next_0502b
theorem dX8_longest_0 : decode cX8_longest 0 = .ok (.iconst 0, 1) := by decide +kernel
theorem dX8_longest_1 : decode cX8_longest 1 = .ok (.istore_n 1, 1) := by decide +kernel
theorem dX8_longest_2 : decode cX8_longest 2 = .ok (.aload_n 0, 1) := by decide +kernel
theorem dX8_longest_3 : decode cX8_longest 3 = .ok (.getfield 34, 3) := by decide +kernel
theorem dX8_longest_6 : decode cX8_longest 6 = .ok (.invokevirtual 70, 3) := by decide +kernel
theorem dX8_longest_9 : decode cX8_longest 9 = .ok (.astore_n 2, 1) := by decide +kernel
theorem dX8_longest_10 : decode cX8_longest 10 = .ok (.aload_n 2, 1) := by decide +kernel
theorem dX8_longest_11 : decode cX8_longest 11 = .ok (.invokeinterface 74 1, 5) := by decide +kernel
theorem dX8_longest_16 : decode cX8_longest 16 = .ok (.ifCond .eq 25, 3) := by decide +kernel
theorem dX8_longest_19 : decode cX8_longest 19 = .ok (.aload_n 2, 1) := by decide +kernel
theorem dX8_longest_20 : decode cX8_longest 20 = .ok (.invokeinterface 79 1, 5) := by decide +kernel
theorem dX8_longest_25 : decode cX8_longest 25 = .ok (.checkcast 83, 3) := by decide +kernel
theorem dX8_longest_28 : decode cX8_longest 28 = .ok (.astore_n 3, 1) := by decide +kernel
theorem dX8_longest_29 : decode cX8_longest 29 = .ok (.iload_n 1, 1) := by decide +kernel
theorem dX8_longest_30 : decode cX8_longest 30 = .ok (.aload_n 3, 1) := by decide +kernel
theorem dX8_longest_31 : decode cX8_longest 31 = .ok (.getfield 85, 3) := by decide +kernel
theorem dX8_longest_34 : decode cX8_longest 34 = .ok (.invokestatic 92, 3) := by decide +kernel
theorem dX8_longest_37 : decode cX8_longest 37 = .ok (.istore_n 1, 1) := by decide +kernel
theorem dX8_longest_38 : decode cX8_longest 38 = .ok (.goto (-28), 3) := by decide +kernel
theorem dX8_longest_41 : decode cX8_longest 41 = .ok (.iload_n 1, 1) := by decide +kernel
theorem dX8_longest_42 : decode cX8_longest 42 = .ok (.ireturn, 1) := by decide +kernel
set_option maxRecDepth 20000 in
theorem ggX8_vote_Jx4a65c_iterator_32c93 : GoodIn wsX8_vote wsJx4a65c_iterator_32c93 := goodIn_r _ [7, 8, 9, 10, 11, 12, 13, 14, 15, 16, 17, 18, 19, 20, 21, 75, 76, 77, 78, 79, 80, 81] (by decide +kernel) (by decide +kernel)
set_option maxRecDepth 20000 in
theorem gX8_vote_Jx4a65c_iterator_32c93 : GoodIn wsX8_vote (wsV RX8 70 RJx4a65c yJx4a65c_iterator_32c93 wsJx4a65c_iterator_32c93) := goodIn_app (goodIn_of _ (by decide +kernel)) ggX8_vote_Jx4a65c_iterator_32c93
set_option maxRecDepth 20000 in
theorem ggX8_vote_Jx35411_hasNext_aae02 : GoodIn wsX8_vote wsJx35411_hasNext_aae02 := goodIn_r _ [25, 26, 14, 75, 76, 77, 78, 79, 80, 81] (by decide +kernel) (by decide +kernel)
set_option maxRecDepth 20000 in
theorem gX8_vote_Jx35411_hasNext_aae02_f74Jx35411 : GoodIn wsX8_vote (va_wsF RX8 74 RJx35411 ⟨"java/util/Iterator", "hasNext", "()Z"⟩ yJx35411_hasNext_aae02 wsJx35411_hasNext_aae02) := goodIn_app (goodIn_of _ (by decide +kernel)) ggX8_vote_Jx35411_hasNext_aae02
set_option maxRecDepth 20000 in
theorem ggX8_vote_Jx35411_next_0502b : GoodIn wsX8_vote wsJx35411_next_0502b := goodIn_r _ [30, 26, 14, 31, 18, 32, 33, 34, 10, 35, 19, 20, 21, 75, 76, 77, 78, 79, 80, 81] (by decide +kernel) (by decide +kernel)
set_option maxRecDepth 20000 in
theorem gX8_vote_Jx35411_next_0502b_f79Jx35411 : GoodIn wsX8_vote (va_wsF RX8 79 RJx35411 ⟨"java/util/Iterator", "next", "()Ljava/lang/Object;"⟩ yJx35411_next_0502b wsJx35411_next_0502b) := goodIn_app (goodIn_of _ (by decide +kernel)) ggX8_vote_Jx35411_next_0502b
set_option maxRecDepth 20000 in
theorem ggX8_vote_X9_at : GoodIn wsX8_vote wsX9_at := goodIn_r _ [40, 41, 82, 83, 84] (by decide +kernel) (by decide +kernel)
set_option maxRecDepth 20000 in
theorem gX8_vote_X9_at : GoodIn wsX8_vote (wsV RX8 95 RX9 yX9_at wsX9_at) := goodIn_app (goodIn_of _ (by decide +kernel)) ggX8_vote_X9_at
set_option maxRecDepth 20000 in
theorem ggX8_vote_Jx4a65c_size_8abf5 : GoodIn wsX8_vote wsJx4a65c_size_8abf5 := goodIn_r _ [45, 46, 79, 80, 81] (by decide +kernel) (by decide +kernel)
set_option maxRecDepth 20000 in
theorem gX8_vote_Jx4a65c_size_8abf5 : GoodIn wsX8_vote (wsV RX8 99 RJx4a65c yJx4a65c_size_8abf5 wsJx4a65c_size_8abf5) := goodIn_app (goodIn_of _ (by decide +kernel)) ggX8_vote_Jx4a65c_size_8abf5
set_option maxRecDepth 20000 in
theorem ggX8_vote_Jx4a65c_get_915e3 : GoodIn wsX8_vote wsJx4a65c_get_915e3 := goodIn_r _ [50, 46, 51, 52, 53, 54, 55, 56, 57, 58, 59, 60, 61, 6, 62, 63, 79, 80, 81] (by decide +kernel) (by decide +kernel)
set_option maxRecDepth 20000 in
theorem gX8_vote_Jx4a65c_get_915e3 : GoodIn wsX8_vote (wsV RX8 102 RJx4a65c yJx4a65c_get_915e3 wsJx4a65c_get_915e3) := goodIn_app (goodIn_of _ (by decide +kernel)) ggX8_vote_Jx4a65c_get_915e3
theorem dX8_vote_0 : decode cX8_vote 0 = .ok (.iconst 0, 1) := by decide +kernel
theorem dX8_vote_1 : decode cX8_vote 1 = .ok (.istore_n 2, 1) := by decide +kernel
theorem dX8_vote_2 : decode cX8_vote 2 = .ok (.aload_n 0, 1) := by decide +kernel
theorem dX8_vote_3 : decode cX8_vote 3 = .ok (.getfield 34, 3) := by decide +kernel
theorem dX8_vote_6 : decode cX8_vote 6 = .ok (.invokevirtual 70, 3) := by decide +kernel
theorem dX8_vote_9 : decode cX8_vote 9 = .ok (.astore_n 3, 1) := by decide +kernel
theorem dX8_vote_10 : decode cX8_vote 10 = .ok (.aload_n 3, 1) := by decide +kernel
theorem dX8_vote_11 : decode cX8_vote 11 = .ok (.invokeinterface 74 1, 5) := by decide +kernel
theorem dX8_vote_16 : decode cX8_vote 16 = .ok (.ifCond .eq 26, 3) := by decide +kernel
theorem dX8_vote_19 : decode cX8_vote 19 = .ok (.aload_n 3, 1) := by decide +kernel
theorem dX8_vote_20 : decode cX8_vote 20 = .ok (.invokeinterface 79 1, 5) := by decide +kernel
theorem dX8_vote_25 : decode cX8_vote 25 = .ok (.checkcast 83, 3) := by decide +kernel
theorem dX8_vote_28 : decode cX8_vote 28 = .ok (.astore 4, 2) := by decide +kernel
theorem dX8_vote_30 : decode cX8_vote 30 = .ok (.iload_n 2, 1) := by decide +kernel
theorem dX8_vote_31 : decode cX8_vote 31 = .ok (.aload 4, 2) := by decide +kernel
theorem dX8_vote_33 : decode cX8_vote 33 = .ok (.iload_n 1, 1) := by decide +kernel
theorem dX8_vote_34 : decode cX8_vote 34 = .ok (.invokevirtual 95, 3) := by decide +kernel
theorem dX8_vote_37 : decode cX8_vote 37 = .ok (.iadd, 1) := by decide +kernel
theorem dX8_vote_38 : decode cX8_vote 38 = .ok (.istore_n 2, 1) := by decide +kernel
theorem dX8_vote_39 : decode cX8_vote 39 = .ok (.goto (-29), 3) := by decide +kernel
theorem dX8_vote_42 : decode cX8_vote 42 = .ok (.iconst 2, 1) := by decide +kernel
theorem dX8_vote_43 : decode cX8_vote 43 = .ok (.iload_n 2, 1) := by decide +kernel
theorem dX8_vote_44 : decode cX8_vote 44 = .ok (.imul, 1) := by decide +kernel
theorem dX8_vote_45 : decode cX8_vote 45 = .ok (.aload_n 0, 1) := by decide +kernel
theorem dX8_vote_46 : decode cX8_vote 46 = .ok (.getfield 34, 3) := by decide +kernel
theorem dX8_vote_49 : decode cX8_vote 49 = .ok (.invokevirtual 99, 3) := by decide +kernel
theorem dX8_vote_52 : decode cX8_vote 52 = .ok (.if_icmp .ne 27, 3) := by decide +kernel
theorem dX8_vote_55 : decode cX8_vote 55 = .ok (.aload_n 0, 1) := by decide +kernel
theorem dX8_vote_56 : decode cX8_vote 56 = .ok (.getfield 34, 3) := by decide +kernel
theorem dX8_vote_59 : decode cX8_vote 59 = .ok (.aload_n 0, 1) := by decide +kernel
theorem dX8_vote_60 : decode cX8_vote 60 = .ok (.getfield 34, 3) := by decide +kernel
theorem dX8_vote_63 : decode cX8_vote 63 = .ok (.invokevirtual 99, 3) := by decide +kernel
theorem dX8_vote_66 : decode cX8_vote 66 = .ok (.iconst 1, 1) := by decide +kernel
theorem dX8_vote_67 : decode cX8_vote 67 = .ok (.isub, 1) := by decide +kernel
theorem dX8_vote_68 : decode cX8_vote 68 = .ok (.invokevirtual 102, 3) := by decide +kernel
theorem dX8_vote_71 : decode cX8_vote 71 = .ok (.checkcast 83, 3) := by decide +kernel
theorem dX8_vote_74 : decode cX8_vote 74 = .ok (.iload_n 1, 1) := by decide +kernel
theorem dX8_vote_75 : decode cX8_vote 75 = .ok (.invokevirtual 95, 3) := by decide +kernel
theorem dX8_vote_78 : decode cX8_vote 78 = .ok (.ireturn, 1) := by decide +kernel
theorem dX8_vote_79 : decode cX8_vote 79 = .ok (.iconst 2, 1) := by decide +kernel
theorem dX8_vote_80 : decode cX8_vote 80 = .ok (.iload_n 2, 1) := by decide +kernel
theorem dX8_vote_81 : decode cX8_vote 81 = .ok (.imul, 1) := by decide +kernel
theorem dX8_vote_82 : decode cX8_vote 82 = .ok (.aload_n 0, 1) := by decide +kernel
theorem dX8_vote_83 : decode cX8_vote 83 = .ok (.getfield 34, 3) := by decide +kernel
theorem dX8_vote_86 : decode cX8_vote 86 = .ok (.invokevirtual 99, 3) := by decide +kernel
theorem dX8_vote_89 : decode cX8_vote 89 = .ok (.if_icmp .le 7, 3) := by decide +kernel
theorem dX8_vote_92 : decode cX8_vote 92 = .ok (.iconst 1, 1) := by decide +kernel
theorem dX8_vote_93 : decode cX8_vote 93 = .ok (.goto 4, 3) := by decide +kernel
theorem dX8_vote_96 : decode cX8_vote 96 = .ok (.iconst 0, 1) := by decide +kernel
theorem dX8_vote_97 : decode cX8_vote 97 = .ok (.ireturn, 1) := by decide +kernel
set_option maxRecDepth 20000 in
theorem ggX8_unsure_X8_longest : GoodIn wsX8_unsure wsX8_longest := goodIn_r _ [7, 1, 2, 8, 9, 10, 11, 12, 13, 14, 15, 16, 17, 18, 19, 20, 21, 22, 23, 24, 25, 26, 27, 28, 29, 30, 31, 32, 33, 34, 35, 36, 37, 38, 39, 40, 41, 42, 43, 44, 67, 68, 69, 70, 71, 72, 73, 74, 75, 76, 77, 78, 79, 80, 81, 82, 83, 84, 85, 86, 87] (by decide +kernel) (by decide +kernel)
set_option maxRecDepth 20000 in
theorem gX8_unsure_X8_longest : GoodIn wsX8_unsure (wsV RX8 106 RX8 yX8_longest wsX8_longest) := goodIn_app (goodIn_of _ (by decide +kernel)) ggX8_unsure_X8_longest
set_option maxRecDepth 20000 in
theorem ggX8_unsure_X8_shortest : GoodIn wsX8_unsure wsX8_shortest := goodIn_r _ [48, 1, 2, 49, 50, 10, 51, 52, 53, 54, 15, 55, 56, 12, 13, 14, 16, 17, 18, 19, 20, 21, 22, 23, 24, 25, 26, 27, 28, 29, 30, 31, 32, 33, 34, 35, 36, 37, 38, 39, 40, 41, 42, 43, 44, 67, 68, 69, 70, 71, 72, 73, 74, 75, 76, 77, 78, 79, 80, 85, 86, 87, 81, 82, 83, 84] (by decide +kernel) (by decide +kernel)
set_option maxRecDepth 20000 in
theorem gX8_unsure_X8_shortest : GoodIn wsX8_unsure (wsV RX8 109 RX8 yX8_shortest wsX8_shortest) := goodIn_app (goodIn_of _ (by decide +kernel)) ggX8_unsure_X8_shortest
set_option maxRecDepth 20000 in
theorem ggX8_unsure_Jx4a65c_iterator_32c93 : GoodIn wsX8_unsure wsJx4a65c_iterator_32c93 := goodIn_r _ [16, 17, 18, 19, 20, 21, 22, 23, 24, 25, 26, 27, 28, 29, 30, 81, 82, 83, 84, 85, 86, 87] (by decide +kernel) (by decide +kernel)
set_option maxRecDepth 20000 in
theorem gX8_unsure_Jx4a65c_iterator_32c93 : GoodIn wsX8_unsure (wsV RX8 70 RJx4a65c yJx4a65c_iterator_32c93 wsJx4a65c_iterator_32c93) := goodIn_app (goodIn_of _ (by decide +kernel)) ggX8_unsure_Jx4a65c_iterator_32c93
set_option maxRecDepth 20000 in
theorem ggX8_unsure_Jx35411_hasNext_aae02 : GoodIn wsX8_unsure wsJx35411_hasNext_aae02 := goodIn_r _ [34, 35, 23, 81, 82, 83, 84, 85, 86, 87] (by decide +kernel) (by decide +kernel)
set_option maxRecDepth 20000 in
theorem gX8_unsure_Jx35411_hasNext_aae02_f74Jx35411 : GoodIn wsX8_unsure (va_wsF RX8 74 RJx35411 ⟨"java/util/Iterator", "hasNext", "()Z"⟩ yJx35411_hasNext_aae02 wsJx35411_hasNext_aae02) := goodIn_app (goodIn_of _ (by decide +kernel)) ggX8_unsure_Jx35411_hasNext_aae02
set_option maxRecDepth 20000 in
theorem ggX8_unsure_Jx35411_next_0502b : GoodIn wsX8_unsure wsJx35411_next_0502b := goodIn_r _ [39, 35, 23, 40, 27, 41, 42, 43, 19, 44, 28, 29, 30, 81, 82, 83, 84, 85, 86, 87] (by decide +kernel) (by decide +kernel)
set_option maxRecDepth 20000 in
theorem gX8_unsure_Jx35411_next_0502b_f79Jx35411 : GoodIn wsX8_unsure (va_wsF RX8 79 RJx35411 ⟨"java/util/Iterator", "next", "()Ljava/lang/Object;"⟩ yJx35411_next_0502b wsJx35411_next_0502b) := goodIn_app (goodIn_of _ (by decide +kernel)) ggX8_unsure_Jx35411_next_0502b
set_option maxRecDepth 20000 in
theorem ggX8_unsure_X9_at : GoodIn wsX8_unsure wsX9_at := goodIn_r _ [61, 62, 78, 79, 80] (by decide +kernel) (by decide +kernel)
set_option maxRecDepth 20000 in
theorem gX8_unsure_X9_at : GoodIn wsX8_unsure (wsV RX8 95 RX9 yX9_at wsX9_at) := goodIn_app (goodIn_of _ (by decide +kernel)) ggX8_unsure_X9_at
set_option maxRecDepth 20000 in
theorem ggX8_unsure_Jx4a65c_size_8abf5 : GoodIn wsX8_unsure wsJx4a65c_size_8abf5 := goodIn_r _ [66, 56, 85, 86, 87] (by decide +kernel) (by decide +kernel)
set_option maxRecDepth 20000 in
theorem gX8_unsure_Jx4a65c_size_8abf5 : GoodIn wsX8_unsure (wsV RX8 99 RJx4a65c yJx4a65c_size_8abf5 wsJx4a65c_size_8abf5) := goodIn_app (goodIn_of _ (by decide +kernel)) ggX8_unsure_Jx4a65c_size_8abf5
theorem dX8_unsure_0 : decode cX8_unsure 0 = .ok (.aload_n 0, 1) := by decide +kernel
theorem dX8_unsure_1 : decode cX8_unsure 1 = .ok (.invokevirtual 106, 3) := by decide +kernel
theorem dX8_unsure_4 : decode cX8_unsure 4 = .ok (.aload_n 0, 1) := by decide +kernel
theorem dX8_unsure_5 : decode cX8_unsure 5 = .ok (.invokevirtual 109, 3) := by decide +kernel
theorem dX8_unsure_8 : decode cX8_unsure 8 = .ok (.isub, 1) := by decide +kernel
theorem dX8_unsure_9 : decode cX8_unsure 9 = .ok (.istore_n 1, 1) := by decide +kernel
theorem dX8_unsure_10 : decode cX8_unsure 10 = .ok (.iconst 0, 1) := by decide +kernel
theorem dX8_unsure_11 : decode cX8_unsure 11 = .ok (.istore_n 2, 1) := by decide +kernel
theorem dX8_unsure_12 : decode cX8_unsure 12 = .ok (.iload_n 2, 1) := by decide +kernel
theorem dX8_unsure_13 : decode cX8_unsure 13 = .ok (.aload_n 0, 1) := by decide +kernel
theorem dX8_unsure_14 : decode cX8_unsure 14 = .ok (.invokevirtual 109, 3) := by decide +kernel
theorem dX8_unsure_17 : decode cX8_unsure 17 = .ok (.if_icmp .ge 77, 3) := by decide +kernel
theorem dX8_unsure_20 : decode cX8_unsure 20 = .ok (.iconst 0, 1) := by decide +kernel
theorem dX8_unsure_21 : decode cX8_unsure 21 = .ok (.istore_n 3, 1) := by decide +kernel
theorem dX8_unsure_22 : decode cX8_unsure 22 = .ok (.aload_n 0, 1) := by decide +kernel
theorem dX8_unsure_23 : decode cX8_unsure 23 = .ok (.getfield 34, 3) := by decide +kernel
theorem dX8_unsure_26 : decode cX8_unsure 26 = .ok (.invokevirtual 70, 3) := by decide +kernel
theorem dX8_unsure_29 : decode cX8_unsure 29 = .ok (.astore 4, 2) := by decide +kernel
theorem dX8_unsure_31 : decode cX8_unsure 31 = .ok (.aload 4, 2) := by decide +kernel
theorem dX8_unsure_33 : decode cX8_unsure 33 = .ok (.invokeinterface 74 1, 5) := by decide +kernel
theorem dX8_unsure_38 : decode cX8_unsure 38 = .ok (.ifCond .eq 27, 3) := by decide +kernel
theorem dX8_unsure_41 : decode cX8_unsure 41 = .ok (.aload 4, 2) := by decide +kernel
theorem dX8_unsure_43 : decode cX8_unsure 43 = .ok (.invokeinterface 79 1, 5) := by decide +kernel
theorem dX8_unsure_48 : decode cX8_unsure 48 = .ok (.checkcast 83, 3) := by decide +kernel
theorem dX8_unsure_51 : decode cX8_unsure 51 = .ok (.astore 5, 2) := by decide +kernel
theorem dX8_unsure_53 : decode cX8_unsure 53 = .ok (.iload_n 3, 1) := by decide +kernel
theorem dX8_unsure_54 : decode cX8_unsure 54 = .ok (.aload 5, 2) := by decide +kernel
theorem dX8_unsure_56 : decode cX8_unsure 56 = .ok (.iload_n 2, 1) := by decide +kernel
theorem dX8_unsure_57 : decode cX8_unsure 57 = .ok (.invokevirtual 95, 3) := by decide +kernel
theorem dX8_unsure_60 : decode cX8_unsure 60 = .ok (.iadd, 1) := by decide +kernel
theorem dX8_unsure_61 : decode cX8_unsure 61 = .ok (.istore_n 3, 1) := by decide +kernel
theorem dX8_unsure_62 : decode cX8_unsure 62 = .ok (.goto (-31), 3) := by decide +kernel
theorem dX8_unsure_65 : decode cX8_unsure 65 = .ok (.iload_n 1, 1) := by decide +kernel
theorem dX8_unsure_66 : decode cX8_unsure 66 = .ok (.iload_n 3, 1) := by decide +kernel
theorem dX8_unsure_67 : decode cX8_unsure 67 = .ok (.ifCond .eq 14, 3) := by decide +kernel
theorem dX8_unsure_70 : decode cX8_unsure 70 = .ok (.iload_n 3, 1) := by decide +kernel
theorem dX8_unsure_71 : decode cX8_unsure 71 = .ok (.aload_n 0, 1) := by decide +kernel
theorem dX8_unsure_72 : decode cX8_unsure 72 = .ok (.getfield 34, 3) := by decide +kernel
theorem dX8_unsure_75 : decode cX8_unsure 75 = .ok (.invokevirtual 99, 3) := by decide +kernel
theorem dX8_unsure_78 : decode cX8_unsure 78 = .ok (.if_icmp .ne 7, 3) := by decide +kernel
theorem dX8_unsure_81 : decode cX8_unsure 81 = .ok (.iconst 0, 1) := by decide +kernel
theorem dX8_unsure_82 : decode cX8_unsure 82 = .ok (.goto 4, 3) := by decide +kernel
theorem dX8_unsure_85 : decode cX8_unsure 85 = .ok (.iconst 1, 1) := by decide +kernel
theorem dX8_unsure_86 : decode cX8_unsure 86 = .ok (.iadd, 1) := by decide +kernel
theorem dX8_unsure_87 : decode cX8_unsure 87 = .ok (.istore_n 1, 1) := by decide +kernel
theorem dX8_unsure_88 : decode cX8_unsure 88 = .ok (.iinc 2 1, 3) := by decide +kernel
theorem dX8_unsure_91 : decode cX8_unsure 91 = .ok (.goto (-79), 3) := by decide +kernel
theorem dX8_unsure_94 : decode cX8_unsure 94 = .ok (.iload_n 1, 1) := by decide +kernel
theorem dX8_unsure_95 : decode cX8_unsure 95 = .ok (.ireturn, 1) := by decide +kernel
set_option maxRecDepth 20000 in
theorem ggX8_votes_X8_shortest : GoodIn wsX8_votes wsX8_shortest := goodIn_r _ [6, 7, 8, 9, 10, 11, 12, 13, 14, 15, 16, 17, 18, 19, 20, 21, 22, 23, 24, 25, 26, 27, 28, 29, 30, 31, 32, 33, 34, 35, 36, 37, 38, 39, 40, 41, 42, 43, 44, 45, 46, 47, 48, 49, 50, 82, 83, 84, 85, 86, 87, 88, 89, 90, 91, 92, 93, 94, 95, 96, 97, 98, 99, 100, 101, 102] (by decide +kernel) (by decide +kernel)
set_option maxRecDepth 20000 in
theorem gX8_votes_X8_shortest : GoodIn wsX8_votes (wsV RX8 109 RX8 yX8_shortest wsX8_shortest) := goodIn_app (goodIn_of _ (by decide +kernel)) ggX8_votes_X8_shortest
set_option maxRecDepth 20000 in
theorem ggX8_votes_X8_vote : GoodIn wsX8_votes wsX8_vote := goodIn_r _ [54, 7, 8, 19, 20, 21, 16, 22, 23, 24, 25, 26, 27, 28, 29, 30, 31, 32, 33, 34, 35, 36, 37, 38, 39, 40, 41, 42, 43, 44, 45, 46, 47, 48, 49, 50, 55, 56, 57, 58, 59, 60, 61, 62, 63, 64, 18, 65, 66, 67, 68, 69, 70, 71, 72, 73, 74, 75, 76, 77, 78, 79, 80, 81, 82, 83, 84, 85, 86, 87, 88, 89, 90, 91, 92, 99, 100, 101, 102, 96, 97, 98, 93, 94, 95] (by decide +kernel) (by decide +kernel)
set_option maxRecDepth 20000 in
theorem gX8_votes_X8_vote : GoodIn wsX8_votes (wsV RX8 112 RX8 yX8_vote wsX8_vote) := goodIn_app (goodIn_of _ (by decide +kernel)) ggX8_votes_X8_vote
theorem dX8_votes_0 : decode cX8_votes 0 = .ok (.aload_n 0, 1) := by decide +kernel
theorem dX8_votes_1 : decode cX8_votes 1 = .ok (.invokevirtual 109, 3) := by decide +kernel
theorem dX8_votes_4 : decode cX8_votes 4 = .ok (.newarray .int, 2) := by decide +kernel
theorem dX8_votes_6 : decode cX8_votes 6 = .ok (.astore_n 1, 1) := by decide +kernel
theorem dX8_votes_7 : decode cX8_votes 7 = .ok (.iconst 0, 1) := by decide +kernel
theorem dX8_votes_8 : decode cX8_votes 8 = .ok (.istore_n 2, 1) := by decide +kernel
theorem dX8_votes_9 : decode cX8_votes 9 = .ok (.iload_n 2, 1) := by decide +kernel
theorem dX8_votes_10 : decode cX8_votes 10 = .ok (.aload_n 1, 1) := by decide +kernel
theorem dX8_votes_11 : decode cX8_votes 11 = .ok (.arraylength, 1) := by decide +kernel
theorem dX8_votes_12 : decode cX8_votes 12 = .ok (.if_icmp .ge 17, 3) := by decide +kernel
theorem dX8_votes_15 : decode cX8_votes 15 = .ok (.aload_n 1, 1) := by decide +kernel
theorem dX8_votes_16 : decode cX8_votes 16 = .ok (.iload_n 2, 1) := by decide +kernel
theorem dX8_votes_17 : decode cX8_votes 17 = .ok (.aload_n 0, 1) := by decide +kernel
theorem dX8_votes_18 : decode cX8_votes 18 = .ok (.iload_n 2, 1) := by decide +kernel
theorem dX8_votes_19 : decode cX8_votes 19 = .ok (.invokevirtual 112, 3) := by decide +kernel
theorem dX8_votes_22 : decode cX8_votes 22 = .ok (.iastore, 1) := by decide +kernel
theorem dX8_votes_23 : decode cX8_votes 23 = .ok (.iinc 2 1, 3) := by decide +kernel
theorem dX8_votes_26 : decode cX8_votes 26 = .ok (.goto (-17), 3) := by decide +kernel
theorem dX8_votes_29 : decode cX8_votes 29 = .ok (.aload_n 1, 1) := by decide +kernel
theorem dX8_votes_30 : decode cX8_votes 30 = .ok (.areturn, 1) := by decide +kernel
set_option maxRecDepth 20000 in
theorem ggX8_found_Jx4a65c_init_da8c8 : GoodIn wsX8_found wsJx4a65c_init_da8c8 := goodIn_r _ [6, 7, 8, 9, 10, 11, 12, 13, 14, 15, 16, 17, 18, 19, 20, 180, 181, 182] (by decide +kernel) (by decide +kernel)
set_option maxRecDepth 20000 in
theorem gX8_found_Jx4a65c_init_da8c8 : GoodIn wsX8_found (wsJx4a65c_init_da8c8) := ggX8_found_Jx4a65c_init_da8c8
set_option maxRecDepth 20000 in
theorem ggX8_found_X8_votes : GoodIn wsX8_found wsX8_votes := goodIn_r _ [25, 26, 27, 28, 29, 24, 30, 31, 32, 33, 34, 35, 36, 37, 38, 39, 3, 40, 41, 42, 43, 44, 45, 46, 47, 48, 49, 50, 51, 52, 53, 19, 20, 54, 55, 56, 57, 58, 59, 60, 61, 62, 63, 64, 65, 66, 67, 68, 69, 70, 71, 72, 73, 74, 75, 76, 77, 78, 79, 80, 81, 82, 83, 84, 85, 86, 87, 88, 89, 90, 91, 92, 93, 94, 95, 96, 97, 98, 99, 100, 101, 8, 190, 191, 192, 193, 194, 195, 196, 197, 198, 199, 200, 201, 202, 203, 180, 181, 182, 204, 205, 206, 207] (by decide +kernel) (by decide +kernel)
set_option maxRecDepth 20000 in
theorem gX8_found_X8_votes : GoodIn wsX8_found (wsV RX8 115 RX8 yX8_votes wsX8_votes) := goodIn_app (goodIn_of _ (by decide +kernel)) ggX8_found_X8_votes
set_option maxRecDepth 20000 in
theorem ggX8_found_X8_isMark : GoodIn wsX8_found wsX8_isMark := goodIn_r _ [104] (by decide +kernel) (by decide +kernel)
set_option maxRecDepth 20000 in
theorem gX8_found_X8_isMark : GoodIn wsX8_found (va_wsS RX8 119 yX8_isMark wsX8_isMark) := goodIn_app (goodIn_of _ (by decide +kernel)) ggX8_found_X8_isMark
set_option maxRecDepth 20000 in
theorem ggX8_found_X8_findAt : GoodIn wsX8_found wsX8_findAt := goodIn_r _ [108, 109, 110, 111, 112, 113, 114, 115, 19, 20, 26, 116, 117, 118, 119, 120, 121, 122, 24, 123, 124, 125, 126, 127, 128, 129, 130, 131, 183, 184, 185, 186, 187, 188, 189, 190, 191, 192, 193, 194, 195, 196, 197, 198, 199, 200] (by decide +kernel) (by decide +kernel)
set_option maxRecDepth 20000 in
theorem gX8_found_X8_findAt : GoodIn wsX8_found (wsV RX8 123 RX8 yX8_findAt wsX8_findAt) := goodIn_app (goodIn_of _ (by decide +kernel)) ggX8_found_X8_findAt
set_option maxRecDepth 20000 in
theorem ggX8_found_Jx4a65c_add_9ea2d : GoodIn wsX8_found wsJx4a65c_add_9ea2d := goodIn_r _ [135, 136, 56, 8, 41, 137, 138, 139, 3, 140, 141, 142, 143, 144, 145, 146, 147, 148, 7, 149, 150, 35, 151, 152, 153, 154, 155, 156, 157, 158, 159, 160, 161, 162, 163, 164, 165, 166, 167, 168, 169, 170, 171, 172, 173, 174, 175, 34, 36, 176, 177, 178, 179, 180, 181, 182] (by decide +kernel) (by decide +kernel)
set_option maxRecDepth 20000 in
theorem gX8_found_Jx4a65c_add_9ea2d : GoodIn wsX8_found (wsV RX8 127 RJx4a65c yJx4a65c_add_9ea2d wsJx4a65c_add_9ea2d) := goodIn_app (goodIn_of _ (by decide +kernel)) ggX8_found_Jx4a65c_add_9ea2d
theorem dX8_found_0 : decode cX8_found 0 = .ok (.new 31, 3) := by decide +kernel
theorem dX8_found_3 : decode cX8_found 3 = .ok (.dup, 1) := by decide +kernel
theorem dX8_found_4 : decode cX8_found 4 = .ok (.invokespecial 33, 3) := by decide +kernel
theorem dX8_found_7 : decode cX8_found 7 = .ok (.astore_n 2, 1) := by decide +kernel
theorem dX8_found_8 : decode cX8_found 8 = .ok (.aload_n 0, 1) := by decide +kernel
theorem dX8_found_9 : decode cX8_found 9 = .ok (.invokevirtual 115, 3) := by decide +kernel
theorem dX8_found_12 : decode cX8_found 12 = .ok (.astore_n 3, 1) := by decide +kernel
theorem dX8_found_13 : decode cX8_found 13 = .ok (.iconst 0, 1) := by decide +kernel
theorem dX8_found_14 : decode cX8_found 14 = .ok (.istore 4, 2) := by decide +kernel
theorem dX8_found_16 : decode cX8_found 16 = .ok (.iload 4, 2) := by decide +kernel
theorem dX8_found_18 : decode cX8_found 18 = .ok (.bipush 10, 2) := by decide +kernel
theorem dX8_found_20 : decode cX8_found 20 = .ok (.iadd, 1) := by decide +kernel
theorem dX8_found_21 : decode cX8_found 21 = .ok (.aload_n 3, 1) := by decide +kernel
theorem dX8_found_22 : decode cX8_found 22 = .ok (.arraylength, 1) := by decide +kernel
theorem dX8_found_23 : decode cX8_found 23 = .ok (.if_icmp .gt 91, 3) := by decide +kernel
theorem dX8_found_26 : decode cX8_found 26 = .ok (.aload_n 3, 1) := by decide +kernel
theorem dX8_found_27 : decode cX8_found 27 = .ok (.iload 4, 2) := by decide +kernel
theorem dX8_found_29 : decode cX8_found 29 = .ok (.invokestatic 119, 3) := by decide +kernel
theorem dX8_found_32 : decode cX8_found 32 = .ok (.ifCond .ne 9, 3) := by decide +kernel
theorem dX8_found_35 : decode cX8_found 35 = .ok (.iinc 4 1, 3) := by decide +kernel
theorem dX8_found_38 : decode cX8_found 38 = .ok (.goto (-22), 3) := by decide +kernel
theorem dX8_found_41 : decode cX8_found 41 = .ok (.aload_n 0, 1) := by decide +kernel
theorem dX8_found_42 : decode cX8_found 42 = .ok (.aload_n 3, 1) := by decide +kernel
theorem dX8_found_43 : decode cX8_found 43 = .ok (.iload 4, 2) := by decide +kernel
theorem dX8_found_45 : decode cX8_found 45 = .ok (.iload_n 1, 1) := by decide +kernel
theorem dX8_found_46 : decode cX8_found 46 = .ok (.invokevirtual 123, 3) := by decide +kernel
theorem dX8_found_49 : decode cX8_found 49 = .ok (.astore 5, 2) := by decide +kernel
theorem dX8_found_51 : decode cX8_found 51 = .ok (.aload_n 2, 1) := by decide +kernel
theorem dX8_found_52 : decode cX8_found 52 = .ok (.aload 5, 2) := by decide +kernel
theorem dX8_found_54 : decode cX8_found 54 = .ok (.invokevirtual 127, 3) := by decide +kernel
theorem dX8_found_57 : decode cX8_found 57 = .ok (.pop, 1) := by decide +kernel
theorem dX8_found_58 : decode cX8_found 58 = .ok (.aload 5, 2) := by decide +kernel
theorem dX8_found_60 : decode cX8_found 60 = .ok (.getfield 130, 3) := by decide +kernel
theorem dX8_found_63 : decode cX8_found 63 = .ok (.iconst 1, 1) := by decide +kernel
theorem dX8_found_64 : decode cX8_found 64 = .ok (.if_icmp .ne 6, 3) := by decide +kernel
theorem dX8_found_67 : decode cX8_found 67 = .ok (.goto 47, 3) := by decide +kernel
theorem dX8_found_70 : decode cX8_found 70 = .ok (.iload 4, 2) := by decide +kernel
theorem dX8_found_72 : decode cX8_found 72 = .ok (.aload 5, 2) := by decide +kernel
theorem dX8_found_74 : decode cX8_found 74 = .ok (.getfield 130, 3) := by decide +kernel
theorem dX8_found_77 : decode cX8_found 77 = .ok (.ifCond .ne 8, 3) := by decide +kernel
theorem dX8_found_80 : decode cX8_found 80 = .ok (.bipush 10, 2) := by decide +kernel
theorem dX8_found_82 : decode cX8_found 82 = .ok (.goto 26, 3) := by decide +kernel
theorem dX8_found_85 : decode cX8_found 85 = .ok (.bipush 10, 2) := by decide +kernel
theorem dX8_found_87 : decode cX8_found 87 = .ok (.iconst 3, 1) := by decide +kernel
theorem dX8_found_88 : decode cX8_found 88 = .ok (.aload 5, 2) := by decide +kernel
theorem dX8_found_90 : decode cX8_found 90 = .ok (.getfield 135, 3) := by decide +kernel
theorem dX8_found_93 : decode cX8_found 93 = .ok (.iadd, 1) := by decide +kernel
theorem dX8_found_94 : decode cX8_found 94 = .ok (.iload_n 1, 1) := by decide +kernel
theorem dX8_found_95 : decode cX8_found 95 = .ok (.iconst 2, 1) := by decide +kernel
theorem dX8_found_96 : decode cX8_found 96 = .ok (.if_icmp .ne 8, 3) := by decide +kernel
theorem dX8_found_99 : decode cX8_found 99 = .ok (.bipush 10, 2) := by decide +kernel
theorem dX8_found_101 : decode cX8_found 101 = .ok (.goto 5, 3) := by decide +kernel
theorem dX8_found_104 : decode cX8_found 104 = .ok (.bipush 16, 2) := by decide +kernel
theorem dX8_found_106 : decode cX8_found 106 = .ok (.imul, 1) := by decide +kernel
theorem dX8_found_107 : decode cX8_found 107 = .ok (.iadd, 1) := by decide +kernel
theorem dX8_found_108 : decode cX8_found 108 = .ok (.iadd, 1) := by decide +kernel
theorem dX8_found_109 : decode cX8_found 109 = .ok (.istore 4, 2) := by decide +kernel
theorem dX8_found_111 : decode cX8_found 111 = .ok (.goto (-95), 3) := by decide +kernel
theorem dX8_found_114 : decode cX8_found 114 = .ok (.aload_n 2, 1) := by decide +kernel
theorem dX8_found_115 : decode cX8_found 115 = .ok (.areturn, 1) := by decide +kernel
theorem dX8_isMark_0 : decode cX8_isMark 0 = .ok (.iconst 0, 1) := by decide +kernel
theorem dX8_isMark_1 : decode cX8_isMark 1 = .ok (.istore_n 2, 1) := by decide +kernel
theorem dX8_isMark_2 : decode cX8_isMark 2 = .ok (.iload_n 2, 1) := by decide +kernel
theorem dX8_isMark_3 : decode cX8_isMark 3 = .ok (.bipush 10, 2) := by decide +kernel
theorem dX8_isMark_5 : decode cX8_isMark 5 = .ok (.if_icmp .ge 39, 3) := by decide +kernel
theorem dX8_isMark_8 : decode cX8_isMark 8 = .ok (.aload_n 0, 1) := by decide +kernel
theorem dX8_isMark_9 : decode cX8_isMark 9 = .ok (.iload_n 1, 1) := by decide +kernel
theorem dX8_isMark_10 : decode cX8_isMark 10 = .ok (.iload_n 2, 1) := by decide +kernel
theorem dX8_isMark_11 : decode cX8_isMark 11 = .ok (.iadd, 1) := by decide +kernel
theorem dX8_isMark_12 : decode cX8_isMark 12 = .ok (.iaload, 1) := by decide +kernel
theorem dX8_isMark_13 : decode cX8_isMark 13 = .ok (.iload_n 2, 1) := by decide +kernel
theorem dX8_isMark_14 : decode cX8_isMark 14 = .ok (.ifCond .eq 14, 3) := by decide +kernel
theorem dX8_isMark_17 : decode cX8_isMark 17 = .ok (.iload_n 2, 1) := by decide +kernel
theorem dX8_isMark_18 : decode cX8_isMark 18 = .ok (.iconst 5, 1) := by decide +kernel
theorem dX8_isMark_19 : decode cX8_isMark 19 = .ok (.if_icmp .eq 9, 3) := by decide +kernel
theorem dX8_isMark_22 : decode cX8_isMark 22 = .ok (.iload_n 2, 1) := by decide +kernel
theorem dX8_isMark_23 : decode cX8_isMark 23 = .ok (.bipush 9, 2) := by decide +kernel
theorem dX8_isMark_25 : decode cX8_isMark 25 = .ok (.if_icmp .ne 7, 3) := by decide +kernel
theorem dX8_isMark_28 : decode cX8_isMark 28 = .ok (.iconst 1, 1) := by decide +kernel
theorem dX8_isMark_29 : decode cX8_isMark 29 = .ok (.goto 4, 3) := by decide +kernel
theorem dX8_isMark_32 : decode cX8_isMark 32 = .ok (.iconst 0, 1) := by decide +kernel
theorem dX8_isMark_33 : decode cX8_isMark 33 = .ok (.if_icmp .eq 5, 3) := by decide +kernel
theorem dX8_isMark_36 : decode cX8_isMark 36 = .ok (.iconst 0, 1) := by decide +kernel
theorem dX8_isMark_37 : decode cX8_isMark 37 = .ok (.ireturn, 1) := by decide +kernel
theorem dX8_isMark_38 : decode cX8_isMark 38 = .ok (.iinc 2 1, 3) := by decide +kernel
theorem dX8_isMark_41 : decode cX8_isMark 41 = .ok (.goto (-39), 3) := by decide +kernel
theorem dX8_isMark_44 : decode cX8_isMark 44 = .ok (.iconst 1, 1) := by decide +kernel
theorem dX8_isMark_45 : decode cX8_isMark 45 = .ok (.ireturn, 1) := by decide +kernel
set_option maxRecDepth 20000 in
theorem ggX8_findAt_X7_init : GoodIn wsX8_findAt wsX7_init := goodIn_r _ [6, 7, 8, 9, 10, 11, 12, 13, 14, 28, 29, 30, 31, 32, 33, 34] (by decide +kernel) (by decide +kernel)
set_option maxRecDepth 20000 in
theorem gX8_findAt_X7_init : GoodIn wsX8_findAt (wsX7_init) := ggX8_findAt_X7_init
set_option maxRecDepth 20000 in
theorem ggX8_findAt_X8_byteAt : GoodIn wsX8_findAt wsX8_byteAt := goodIn_r _ [19, 20, 21, 22, 18, 23, 24, 35, 36, 37, 38, 39, 40, 41, 42, 43, 44, 45] (by decide +kernel) (by decide +kernel)
set_option maxRecDepth 20000 in
theorem gX8_findAt_X8_byteAt : GoodIn wsX8_findAt (wsV RX8 140 RX8 yX8_byteAt wsX8_byteAt) := goodIn_app (goodIn_of _ (by decide +kernel)) ggX8_findAt_X8_byteAt
set_option maxRecDepth 20000 in
theorem ggX8_findAt_X10_is : GoodIn wsX8_findAt wsX10_is := goodIn_r _ [27] (by decide +kernel) (by decide +kernel)
set_option maxRecDepth 20000 in
theorem gX8_findAt_X10_is_n144 : GoodIn wsX8_findAt (wsX10_is) := ggX8_findAt_X10_is
theorem dX8_findAt_0 : decode cX8_findAt 0 = .ok (.iload_n 3, 1) := by decide +kernel
theorem dX8_findAt_1 : decode cX8_findAt 1 = .ok (.iconst 2, 1) := by decide +kernel
theorem dX8_findAt_2 : decode cX8_findAt 2 = .ok (.if_icmp .ne 8, 3) := by decide +kernel
theorem dX8_findAt_5 : decode cX8_findAt 5 = .ok (.bipush 10, 2) := by decide +kernel
theorem dX8_findAt_7 : decode cX8_findAt 7 = .ok (.goto 5, 3) := by decide +kernel
theorem dX8_findAt_10 : decode cX8_findAt 10 = .ok (.bipush 16, 2) := by decide +kernel
theorem dX8_findAt_12 : decode cX8_findAt 12 = .ok (.istore 4, 2) := by decide +kernel
theorem dX8_findAt_14 : decode cX8_findAt 14 = .ok (.iload_n 2, 1) := by decide +kernel
theorem dX8_findAt_15 : decode cX8_findAt 15 = .ok (.bipush 10, 2) := by decide +kernel
theorem dX8_findAt_17 : decode cX8_findAt 17 = .ok (.iadd, 1) := by decide +kernel
theorem dX8_findAt_18 : decode cX8_findAt 18 = .ok (.istore 5, 2) := by decide +kernel
theorem dX8_findAt_20 : decode cX8_findAt 20 = .ok (.iload 5, 2) := by decide +kernel
theorem dX8_findAt_22 : decode cX8_findAt 22 = .ok (.iconst 2, 1) := by decide +kernel
theorem dX8_findAt_23 : decode cX8_findAt 23 = .ok (.iload 4, 2) := by decide +kernel
theorem dX8_findAt_25 : decode cX8_findAt 25 = .ok (.imul, 1) := by decide +kernel
theorem dX8_findAt_26 : decode cX8_findAt 26 = .ok (.iadd, 1) := by decide +kernel
theorem dX8_findAt_27 : decode cX8_findAt 27 = .ok (.aload_n 1, 1) := by decide +kernel
theorem dX8_findAt_28 : decode cX8_findAt 28 = .ok (.arraylength, 1) := by decide +kernel
theorem dX8_findAt_29 : decode cX8_findAt 29 = .ok (.if_icmp .le 13, 3) := by decide +kernel
theorem dX8_findAt_32 : decode cX8_findAt 32 = .ok (.new 131, 3) := by decide +kernel
theorem dX8_findAt_35 : decode cX8_findAt 35 = .ok (.dup, 1) := by decide +kernel
theorem dX8_findAt_36 : decode cX8_findAt 36 = .ok (.iconst 0, 1) := by decide +kernel
theorem dX8_findAt_37 : decode cX8_findAt 37 = .ok (.iload_n 2, 1) := by decide +kernel
theorem dX8_findAt_38 : decode cX8_findAt 38 = .ok (.invokespecial 138, 3) := by decide +kernel
theorem dX8_findAt_41 : decode cX8_findAt 41 = .ok (.areturn, 1) := by decide +kernel
theorem dX8_findAt_42 : decode cX8_findAt 42 = .ok (.aload_n 0, 1) := by decide +kernel
theorem dX8_findAt_43 : decode cX8_findAt 43 = .ok (.aload_n 1, 1) := by decide +kernel
theorem dX8_findAt_44 : decode cX8_findAt 44 = .ok (.iload 5, 2) := by decide +kernel
theorem dX8_findAt_46 : decode cX8_findAt 46 = .ok (.iload_n 3, 1) := by decide +kernel
theorem dX8_findAt_47 : decode cX8_findAt 47 = .ok (.invokevirtual 140, 3) := by decide +kernel
theorem dX8_findAt_50 : decode cX8_findAt 50 = .ok (.istore 6, 2) := by decide +kernel
theorem dX8_findAt_52 : decode cX8_findAt 52 = .ok (.aload_n 0, 1) := by decide +kernel
theorem dX8_findAt_53 : decode cX8_findAt 53 = .ok (.aload_n 1, 1) := by decide +kernel
theorem dX8_findAt_54 : decode cX8_findAt 54 = .ok (.iload 5, 2) := by decide +kernel
theorem dX8_findAt_56 : decode cX8_findAt 56 = .ok (.iload 4, 2) := by decide +kernel
theorem dX8_findAt_58 : decode cX8_findAt 58 = .ok (.iadd, 1) := by decide +kernel
theorem dX8_findAt_59 : decode cX8_findAt 59 = .ok (.iload_n 3, 1) := by decide +kernel
theorem dX8_findAt_60 : decode cX8_findAt 60 = .ok (.invokevirtual 140, 3) := by decide +kernel
theorem dX8_findAt_63 : decode cX8_findAt 63 = .ok (.istore 7, 2) := by decide +kernel
theorem dX8_findAt_65 : decode cX8_findAt 65 = .ok (.iload 6, 2) := by decide +kernel
theorem dX8_findAt_67 : decode cX8_findAt 67 = .ok (.iconst (-1), 1) := by decide +kernel
theorem dX8_findAt_68 : decode cX8_findAt 68 = .ok (.if_icmp .eq 13, 3) := by decide +kernel
theorem dX8_findAt_71 : decode cX8_findAt 71 = .ok (.iload 7, 2) := by decide +kernel
theorem dX8_findAt_73 : decode cX8_findAt 73 = .ok (.iconst 1, 1) := by decide +kernel
theorem dX8_findAt_74 : decode cX8_findAt 74 = .ok (.iconst 4, 1) := by decide +kernel
theorem dX8_findAt_75 : decode cX8_findAt 75 = .ok (.invokestatic 144, 3) := by decide +kernel
theorem dX8_findAt_78 : decode cX8_findAt 78 = .ok (.ifCond .ne 13, 3) := by decide +kernel
theorem dX8_findAt_81 : decode cX8_findAt 81 = .ok (.new 131, 3) := by decide +kernel
theorem dX8_findAt_84 : decode cX8_findAt 84 = .ok (.dup, 1) := by decide +kernel
theorem dX8_findAt_85 : decode cX8_findAt 85 = .ok (.iconst 0, 1) := by decide +kernel
theorem dX8_findAt_86 : decode cX8_findAt 86 = .ok (.iload_n 2, 1) := by decide +kernel
theorem dX8_findAt_87 : decode cX8_findAt 87 = .ok (.invokespecial 138, 3) := by decide +kernel
theorem dX8_findAt_90 : decode cX8_findAt 90 = .ok (.areturn, 1) := by decide +kernel
theorem dX8_findAt_91 : decode cX8_findAt 91 = .ok (.iload 5, 2) := by decide +kernel
theorem dX8_findAt_93 : decode cX8_findAt 93 = .ok (.iconst 3, 1) := by decide +kernel
theorem dX8_findAt_94 : decode cX8_findAt 94 = .ok (.iload 7, 2) := by decide +kernel
theorem dX8_findAt_96 : decode cX8_findAt 96 = .ok (.iadd, 1) := by decide +kernel
theorem dX8_findAt_97 : decode cX8_findAt 97 = .ok (.iload 4, 2) := by decide +kernel
theorem dX8_findAt_99 : decode cX8_findAt 99 = .ok (.imul, 1) := by decide +kernel
theorem dX8_findAt_100 : decode cX8_findAt 100 = .ok (.iadd, 1) := by decide +kernel
theorem dX8_findAt_101 : decode cX8_findAt 101 = .ok (.aload_n 1, 1) := by decide +kernel
theorem dX8_findAt_102 : decode cX8_findAt 102 = .ok (.arraylength, 1) := by decide +kernel
theorem dX8_findAt_103 : decode cX8_findAt 103 = .ok (.if_icmp .le 13, 3) := by decide +kernel
theorem dX8_findAt_106 : decode cX8_findAt 106 = .ok (.new 131, 3) := by decide +kernel
theorem dX8_findAt_109 : decode cX8_findAt 109 = .ok (.dup, 1) := by decide +kernel
theorem dX8_findAt_110 : decode cX8_findAt 110 = .ok (.iconst 1, 1) := by decide +kernel
theorem dX8_findAt_111 : decode cX8_findAt 111 = .ok (.iload_n 2, 1) := by decide +kernel
theorem dX8_findAt_112 : decode cX8_findAt 112 = .ok (.invokespecial 138, 3) := by decide +kernel
theorem dX8_findAt_115 : decode cX8_findAt 115 = .ok (.areturn, 1) := by decide +kernel
theorem dX8_findAt_116 : decode cX8_findAt 116 = .ok (.new 131, 3) := by decide +kernel
theorem dX8_findAt_119 : decode cX8_findAt 119 = .ok (.dup, 1) := by decide +kernel
theorem dX8_findAt_120 : decode cX8_findAt 120 = .ok (.iconst 2, 1) := by decide +kernel
theorem dX8_findAt_121 : decode cX8_findAt 121 = .ok (.iload_n 2, 1) := by decide +kernel
theorem dX8_findAt_122 : decode cX8_findAt 122 = .ok (.invokespecial 138, 3) := by decide +kernel
theorem dX8_findAt_125 : decode cX8_findAt 125 = .ok (.astore 8, 2) := by decide +kernel
theorem dX8_findAt_127 : decode cX8_findAt 127 = .ok (.aload 8, 2) := by decide +kernel
theorem dX8_findAt_129 : decode cX8_findAt 129 = .ok (.iload 6, 2) := by decide +kernel
theorem dX8_findAt_131 : decode cX8_findAt 131 = .ok (.putfield 148, 3) := by decide +kernel
theorem dX8_findAt_134 : decode cX8_findAt 134 = .ok (.aload 8, 2) := by decide +kernel
theorem dX8_findAt_136 : decode cX8_findAt 136 = .ok (.iload 7, 2) := by decide +kernel
theorem dX8_findAt_138 : decode cX8_findAt 138 = .ok (.putfield 135, 3) := by decide +kernel
theorem dX8_findAt_141 : decode cX8_findAt 141 = .ok (.aload 8, 2) := by decide +kernel
theorem dX8_findAt_143 : decode cX8_findAt 143 = .ok (.aload_n 0, 1) := by decide +kernel
theorem dX8_findAt_144 : decode cX8_findAt 144 = .ok (.aload_n 1, 1) := by decide +kernel
theorem dX8_findAt_145 : decode cX8_findAt 145 = .ok (.iload 5, 2) := by decide +kernel
theorem dX8_findAt_147 : decode cX8_findAt 147 = .ok (.iconst 2, 1) := by decide +kernel
theorem dX8_findAt_148 : decode cX8_findAt 148 = .ok (.iload 7, 2) := by decide +kernel
theorem dX8_findAt_150 : decode cX8_findAt 150 = .ok (.iadd, 1) := by decide +kernel
theorem dX8_findAt_151 : decode cX8_findAt 151 = .ok (.iload 4, 2) := by decide +kernel
theorem dX8_findAt_153 : decode cX8_findAt 153 = .ok (.imul, 1) := by decide +kernel
theorem dX8_findAt_154 : decode cX8_findAt 154 = .ok (.iadd, 1) := by decide +kernel
theorem dX8_findAt_155 : decode cX8_findAt 155 = .ok (.iload_n 3, 1) := by decide +kernel
theorem dX8_findAt_156 : decode cX8_findAt 156 = .ok (.invokevirtual 140, 3) := by decide +kernel
theorem dX8_findAt_159 : decode cX8_findAt 159 = .ok (.putfield 151, 3) := by decide +kernel
theorem dX8_findAt_162 : decode cX8_findAt 162 = .ok (.iload 6, 2) := by decide +kernel
theorem dX8_findAt_164 : decode cX8_findAt 164 = .ok (.iload 7, 2) := by decide +kernel
theorem dX8_findAt_166 : decode cX8_findAt 166 = .ok (.iadd, 1) := by decide +kernel
theorem dX8_findAt_167 : decode cX8_findAt 167 = .ok (.istore 9, 2) := by decide +kernel
theorem dX8_findAt_169 : decode cX8_findAt 169 = .ok (.iconst 1, 1) := by decide +kernel
theorem dX8_findAt_170 : decode cX8_findAt 170 = .ok (.istore 10, 2) := by decide +kernel
theorem dX8_findAt_172 : decode cX8_findAt 172 = .ok (.iconst 0, 1) := by decide +kernel
theorem dX8_findAt_173 : decode cX8_findAt 173 = .ok (.istore 11, 2) := by decide +kernel
theorem dX8_findAt_175 : decode cX8_findAt 175 = .ok (.iload 11, 2) := by decide +kernel
theorem dX8_findAt_177 : decode cX8_findAt 177 = .ok (.iload 7, 2) := by decide +kernel
theorem dX8_findAt_179 : decode cX8_findAt 179 = .ok (.if_icmp .ge 68, 3) := by decide +kernel
theorem dX8_findAt_182 : decode cX8_findAt 182 = .ok (.aload 8, 2) := by decide +kernel
theorem dX8_findAt_184 : decode cX8_findAt 184 = .ok (.getfield 154, 3) := by decide +kernel
theorem dX8_findAt_187 : decode cX8_findAt 187 = .ok (.iload 11, 2) := by decide +kernel
theorem dX8_findAt_189 : decode cX8_findAt 189 = .ok (.aload_n 0, 1) := by decide +kernel
theorem dX8_findAt_190 : decode cX8_findAt 190 = .ok (.aload_n 1, 1) := by decide +kernel
theorem dX8_findAt_191 : decode cX8_findAt 191 = .ok (.iload 5, 2) := by decide +kernel
theorem dX8_findAt_193 : decode cX8_findAt 193 = .ok (.iconst 2, 1) := by decide +kernel
theorem dX8_findAt_194 : decode cX8_findAt 194 = .ok (.iload 11, 2) := by decide +kernel
theorem dX8_findAt_196 : decode cX8_findAt 196 = .ok (.iadd, 1) := by decide +kernel
theorem dX8_findAt_197 : decode cX8_findAt 197 = .ok (.iload 4, 2) := by decide +kernel
theorem dX8_findAt_199 : decode cX8_findAt 199 = .ok (.imul, 1) := by decide +kernel
theorem dX8_findAt_200 : decode cX8_findAt 200 = .ok (.iadd, 1) := by decide +kernel
theorem dX8_findAt_201 : decode cX8_findAt 201 = .ok (.iload_n 3, 1) := by decide +kernel
theorem dX8_findAt_202 : decode cX8_findAt 202 = .ok (.invokevirtual 140, 3) := by decide +kernel
theorem dX8_findAt_205 : decode cX8_findAt 205 = .ok (.iastore, 1) := by decide +kernel
theorem dX8_findAt_206 : decode cX8_findAt 206 = .ok (.iload 10, 2) := by decide +kernel
theorem dX8_findAt_208 : decode cX8_findAt 208 = .ok (.aload 8, 2) := by decide +kernel
theorem dX8_findAt_210 : decode cX8_findAt 210 = .ok (.getfield 154, 3) := by decide +kernel
theorem dX8_findAt_213 : decode cX8_findAt 213 = .ok (.iload 11, 2) := by decide +kernel
theorem dX8_findAt_215 : decode cX8_findAt 215 = .ok (.iaload, 1) := by decide +kernel
theorem dX8_findAt_216 : decode cX8_findAt 216 = .ok (.iconst (-1), 1) := by decide +kernel
theorem dX8_findAt_217 : decode cX8_findAt 217 = .ok (.if_icmp .eq 7, 3) := by decide +kernel
theorem dX8_findAt_220 : decode cX8_findAt 220 = .ok (.iconst 1, 1) := by decide +kernel
theorem dX8_findAt_221 : decode cX8_findAt 221 = .ok (.goto 4, 3) := by decide +kernel
theorem dX8_findAt_224 : decode cX8_findAt 224 = .ok (.iconst 0, 1) := by decide +kernel
theorem dX8_findAt_225 : decode cX8_findAt 225 = .ok (.iand, 1) := by decide +kernel
theorem dX8_findAt_226 : decode cX8_findAt 226 = .ok (.istore 10, 2) := by decide +kernel
theorem dX8_findAt_228 : decode cX8_findAt 228 = .ok (.iload 9, 2) := by decide +kernel
theorem dX8_findAt_230 : decode cX8_findAt 230 = .ok (.aload 8, 2) := by decide +kernel
theorem dX8_findAt_232 : decode cX8_findAt 232 = .ok (.getfield 154, 3) := by decide +kernel
theorem dX8_findAt_235 : decode cX8_findAt 235 = .ok (.iload 11, 2) := by decide +kernel
theorem dX8_findAt_237 : decode cX8_findAt 237 = .ok (.iaload, 1) := by decide +kernel
theorem dX8_findAt_238 : decode cX8_findAt 238 = .ok (.iadd, 1) := by decide +kernel
theorem dX8_findAt_239 : decode cX8_findAt 239 = .ok (.istore 9, 2) := by decide +kernel
theorem dX8_findAt_241 : decode cX8_findAt 241 = .ok (.iinc 11 1, 3) := by decide +kernel
theorem dX8_findAt_244 : decode cX8_findAt 244 = .ok (.goto (-69), 3) := by decide +kernel
theorem dX8_findAt_247 : decode cX8_findAt 247 = .ok (.aload 8, 2) := by decide +kernel
theorem dX8_findAt_249 : decode cX8_findAt 249 = .ok (.iload 10, 2) := by decide +kernel
theorem dX8_findAt_251 : decode cX8_findAt 251 = .ok (.ifCond .eq 21, 3) := by decide +kernel
theorem dX8_findAt_254 : decode cX8_findAt 254 = .ok (.aload 8, 2) := by decide +kernel
theorem dX8_findAt_256 : decode cX8_findAt 256 = .ok (.getfield 151, 3) := by decide +kernel
theorem dX8_findAt_259 : decode cX8_findAt 259 = .ok (.iload 9, 2) := by decide +kernel
theorem dX8_findAt_261 : decode cX8_findAt 261 = .ok (.sipush 256, 3) := by decide +kernel
theorem dX8_findAt_264 : decode cX8_findAt 264 = .ok (.irem, 1) := by decide +kernel
theorem dX8_findAt_265 : decode cX8_findAt 265 = .ok (.if_icmp .ne 7, 3) := by decide +kernel
theorem dX8_findAt_268 : decode cX8_findAt 268 = .ok (.iconst 1, 1) := by decide +kernel
theorem dX8_findAt_269 : decode cX8_findAt 269 = .ok (.goto 4, 3) := by decide +kernel
theorem dX8_findAt_272 : decode cX8_findAt 272 = .ok (.iconst 0, 1) := by decide +kernel
theorem dX8_findAt_273 : decode cX8_findAt 273 = .ok (.putfield 157, 3) := by decide +kernel
theorem dX8_findAt_276 : decode cX8_findAt 276 = .ok (.aload 8, 2) := by decide +kernel
theorem dX8_findAt_278 : decode cX8_findAt 278 = .ok (.areturn, 1) := by decide +kernel
theorem dX8_fromFive_0 : decode cX8_fromFive 0 = .ok (.iconst 0, 1) := by decide +kernel
theorem dX8_fromFive_1 : decode cX8_fromFive 1 = .ok (.istore_n 2, 1) := by decide +kernel
theorem dX8_fromFive_2 : decode cX8_fromFive 2 = .ok (.iload_n 2, 1) := by decide +kernel
theorem dX8_fromFive_3 : decode cX8_fromFive 3 = .ok (.bipush 16, 2) := by decide +kernel
theorem dX8_fromFive_5 : decode cX8_fromFive 5 = .ok (.if_icmp .ge 21, 3) := by decide +kernel
theorem dX8_fromFive_8 : decode cX8_fromFive 8 = .ok (.aload_n 0, 1) := by decide +kernel
theorem dX8_fromFive_9 : decode cX8_fromFive 9 = .ok (.getfield 9, 3) := by decide +kernel
theorem dX8_fromFive_12 : decode cX8_fromFive 12 = .ok (.iload_n 2, 1) := by decide +kernel
theorem dX8_fromFive_13 : decode cX8_fromFive 13 = .ok (.iaload, 1) := by decide +kernel
theorem dX8_fromFive_14 : decode cX8_fromFive 14 = .ok (.iload_n 1, 1) := by decide +kernel
theorem dX8_fromFive_15 : decode cX8_fromFive 15 = .ok (.if_icmp .ne 5, 3) := by decide +kernel
theorem dX8_fromFive_18 : decode cX8_fromFive 18 = .ok (.iload_n 2, 1) := by decide +kernel
theorem dX8_fromFive_19 : decode cX8_fromFive 19 = .ok (.ireturn, 1) := by decide +kernel
theorem dX8_fromFive_20 : decode cX8_fromFive 20 = .ok (.iinc 2 1, 3) := by decide +kernel
theorem dX8_fromFive_23 : decode cX8_fromFive 23 = .ok (.goto (-21), 3) := by decide +kernel
theorem dX8_fromFive_26 : decode cX8_fromFive 26 = .ok (.iconst (-1), 1) := by decide +kernel
theorem dX8_fromFive_27 : decode cX8_fromFive 27 = .ok (.ireturn, 1) := by decide +kernel
set_option maxRecDepth 20000 in
theorem ggX8_byteAt_X8_fromFive : GoodIn wsX8_byteAt wsX8_fromFive := goodIn_r _ [5, 6, 7, 8, 9, 10, 11, 12, 13, 14, 15, 16, 17] (by decide +kernel) (by decide +kernel)
set_option maxRecDepth 20000 in
theorem gX8_byteAt_X8_fromFive : GoodIn wsX8_byteAt (wsV RX8 161 RX8 yX8_fromFive wsX8_fromFive) := goodIn_app (goodIn_of _ (by decide +kernel)) ggX8_byteAt_X8_fromFive
theorem dX8_byteAt_0 : decode cX8_byteAt 0 = .ok (.iconst 0, 1) := by decide +kernel
theorem dX8_byteAt_1 : decode cX8_byteAt 1 = .ok (.istore 4, 2) := by decide +kernel
theorem dX8_byteAt_3 : decode cX8_byteAt 3 = .ok (.iload_n 3, 1) := by decide +kernel
theorem dX8_byteAt_4 : decode cX8_byteAt 4 = .ok (.iconst 2, 1) := by decide +kernel
theorem dX8_byteAt_5 : decode cX8_byteAt 5 = .ok (.if_icmp .eq 39, 3) := by decide +kernel
theorem dX8_byteAt_8 : decode cX8_byteAt 8 = .ok (.iconst 0, 1) := by decide +kernel
theorem dX8_byteAt_9 : decode cX8_byteAt 9 = .ok (.istore 5, 2) := by decide +kernel
theorem dX8_byteAt_11 : decode cX8_byteAt 11 = .ok (.iload 5, 2) := by decide +kernel
theorem dX8_byteAt_13 : decode cX8_byteAt 13 = .ok (.bipush 8, 2) := by decide +kernel
theorem dX8_byteAt_15 : decode cX8_byteAt 15 = .ok (.if_icmp .ge 26, 3) := by decide +kernel
theorem dX8_byteAt_18 : decode cX8_byteAt 18 = .ok (.iconst 2, 1) := by decide +kernel
theorem dX8_byteAt_19 : decode cX8_byteAt 19 = .ok (.iload 4, 2) := by decide +kernel
theorem dX8_byteAt_21 : decode cX8_byteAt 21 = .ok (.imul, 1) := by decide +kernel
theorem dX8_byteAt_22 : decode cX8_byteAt 22 = .ok (.aload_n 1, 1) := by decide +kernel
theorem dX8_byteAt_23 : decode cX8_byteAt 23 = .ok (.iload_n 2, 1) := by decide +kernel
theorem dX8_byteAt_24 : decode cX8_byteAt 24 = .ok (.iconst 2, 1) := by decide +kernel
theorem dX8_byteAt_25 : decode cX8_byteAt 25 = .ok (.iload 5, 2) := by decide +kernel
theorem dX8_byteAt_27 : decode cX8_byteAt 27 = .ok (.imul, 1) := by decide +kernel
theorem dX8_byteAt_28 : decode cX8_byteAt 28 = .ok (.iadd, 1) := by decide +kernel
theorem dX8_byteAt_29 : decode cX8_byteAt 29 = .ok (.iconst 1, 1) := by decide +kernel
theorem dX8_byteAt_30 : decode cX8_byteAt 30 = .ok (.iadd, 1) := by decide +kernel
theorem dX8_byteAt_31 : decode cX8_byteAt 31 = .ok (.iaload, 1) := by decide +kernel
theorem dX8_byteAt_32 : decode cX8_byteAt 32 = .ok (.iadd, 1) := by decide +kernel
theorem dX8_byteAt_33 : decode cX8_byteAt 33 = .ok (.istore 4, 2) := by decide +kernel
theorem dX8_byteAt_35 : decode cX8_byteAt 35 = .ok (.iinc 5 1, 3) := by decide +kernel
theorem dX8_byteAt_38 : decode cX8_byteAt 38 = .ok (.goto (-27), 3) := by decide +kernel
theorem dX8_byteAt_41 : decode cX8_byteAt 41 = .ok (.iload 4, 2) := by decide +kernel
theorem dX8_byteAt_43 : decode cX8_byteAt 43 = .ok (.ireturn, 1) := by decide +kernel
theorem dX8_byteAt_44 : decode cX8_byteAt 44 = .ok (.iconst 0, 1) := by decide +kernel
theorem dX8_byteAt_45 : decode cX8_byteAt 45 = .ok (.istore 5, 2) := by decide +kernel
theorem dX8_byteAt_47 : decode cX8_byteAt 47 = .ok (.iload 5, 2) := by decide +kernel
theorem dX8_byteAt_49 : decode cX8_byteAt 49 = .ok (.iconst 2, 1) := by decide +kernel
theorem dX8_byteAt_50 : decode cX8_byteAt 50 = .ok (.if_icmp .ge 71, 3) := by decide +kernel
theorem dX8_byteAt_53 : decode cX8_byteAt 53 = .ok (.iconst 0, 1) := by decide +kernel
theorem dX8_byteAt_54 : decode cX8_byteAt 54 = .ok (.istore 6, 2) := by decide +kernel
theorem dX8_byteAt_56 : decode cX8_byteAt 56 = .ok (.iconst 0, 1) := by decide +kernel
theorem dX8_byteAt_57 : decode cX8_byteAt 57 = .ok (.istore 7, 2) := by decide +kernel
theorem dX8_byteAt_59 : decode cX8_byteAt 59 = .ok (.iload 7, 2) := by decide +kernel
theorem dX8_byteAt_61 : decode cX8_byteAt 61 = .ok (.iconst 5, 1) := by decide +kernel
theorem dX8_byteAt_62 : decode cX8_byteAt 62 = .ok (.if_icmp .ge 27, 3) := by decide +kernel
theorem dX8_byteAt_65 : decode cX8_byteAt 65 = .ok (.iconst 2, 1) := by decide +kernel
theorem dX8_byteAt_66 : decode cX8_byteAt 66 = .ok (.iload 6, 2) := by decide +kernel
theorem dX8_byteAt_68 : decode cX8_byteAt 68 = .ok (.imul, 1) := by decide +kernel
theorem dX8_byteAt_69 : decode cX8_byteAt 69 = .ok (.aload_n 1, 1) := by decide +kernel
theorem dX8_byteAt_70 : decode cX8_byteAt 70 = .ok (.iload_n 2, 1) := by decide +kernel
theorem dX8_byteAt_71 : decode cX8_byteAt 71 = .ok (.iconst 5, 1) := by decide +kernel
theorem dX8_byteAt_72 : decode cX8_byteAt 72 = .ok (.iload 5, 2) := by decide +kernel
theorem dX8_byteAt_74 : decode cX8_byteAt 74 = .ok (.imul, 1) := by decide +kernel
theorem dX8_byteAt_75 : decode cX8_byteAt 75 = .ok (.iadd, 1) := by decide +kernel
theorem dX8_byteAt_76 : decode cX8_byteAt 76 = .ok (.iload 7, 2) := by decide +kernel
theorem dX8_byteAt_78 : decode cX8_byteAt 78 = .ok (.iadd, 1) := by decide +kernel
theorem dX8_byteAt_79 : decode cX8_byteAt 79 = .ok (.iaload, 1) := by decide +kernel
theorem dX8_byteAt_80 : decode cX8_byteAt 80 = .ok (.iadd, 1) := by decide +kernel
theorem dX8_byteAt_81 : decode cX8_byteAt 81 = .ok (.istore 6, 2) := by decide +kernel
theorem dX8_byteAt_83 : decode cX8_byteAt 83 = .ok (.iinc 7 1, 3) := by decide +kernel
theorem dX8_byteAt_86 : decode cX8_byteAt 86 = .ok (.goto (-27), 3) := by decide +kernel
theorem dX8_byteAt_89 : decode cX8_byteAt 89 = .ok (.aload_n 0, 1) := by decide +kernel
theorem dX8_byteAt_90 : decode cX8_byteAt 90 = .ok (.iload 6, 2) := by decide +kernel
theorem dX8_byteAt_92 : decode cX8_byteAt 92 = .ok (.invokevirtual 161, 3) := by decide +kernel
theorem dX8_byteAt_95 : decode cX8_byteAt 95 = .ok (.iconst (-1), 1) := by decide +kernel
theorem dX8_byteAt_96 : decode cX8_byteAt 96 = .ok (.if_icmp .ne 5, 3) := by decide +kernel
theorem dX8_byteAt_99 : decode cX8_byteAt 99 = .ok (.iconst (-1), 1) := by decide +kernel
theorem dX8_byteAt_100 : decode cX8_byteAt 100 = .ok (.ireturn, 1) := by decide +kernel
theorem dX8_byteAt_101 : decode cX8_byteAt 101 = .ok (.bipush 16, 2) := by decide +kernel
theorem dX8_byteAt_103 : decode cX8_byteAt 103 = .ok (.iload 4, 2) := by decide +kernel
theorem dX8_byteAt_105 : decode cX8_byteAt 105 = .ok (.imul, 1) := by decide +kernel
theorem dX8_byteAt_106 : decode cX8_byteAt 106 = .ok (.aload_n 0, 1) := by decide +kernel
theorem dX8_byteAt_107 : decode cX8_byteAt 107 = .ok (.iload 6, 2) := by decide +kernel
theorem dX8_byteAt_109 : decode cX8_byteAt 109 = .ok (.invokevirtual 161, 3) := by decide +kernel
theorem dX8_byteAt_112 : decode cX8_byteAt 112 = .ok (.iadd, 1) := by decide +kernel
theorem dX8_byteAt_113 : decode cX8_byteAt 113 = .ok (.istore 4, 2) := by decide +kernel
theorem dX8_byteAt_115 : decode cX8_byteAt 115 = .ok (.iinc 5 1, 3) := by decide +kernel
theorem dX8_byteAt_118 : decode cX8_byteAt 118 = .ok (.goto (-71), 3) := by decide +kernel
theorem dX8_byteAt_121 : decode cX8_byteAt 121 = .ok (.iload 4, 2) := by decide +kernel
theorem dX8_byteAt_123 : decode cX8_byteAt 123 = .ok (.ireturn, 1) := by decide +kernel
set_option maxRecDepth 20000 in
theorem ggX8_guards_X8_found : GoodIn wsX8_guards wsX8_found := goodIn_r _ [8, 9, 10, 11, 12, 13, 14, 15, 16, 17, 18, 19, 20, 21, 22, 23, 24, 25, 26, 27, 28, 29, 30, 31, 7, 32, 1, 33, 34, 35, 36, 37, 38, 39, 40, 41, 42, 43, 44, 45, 46, 47, 48, 49, 50, 51, 52, 53, 54, 55, 56, 57, 58, 59, 60, 61, 62, 63, 64, 65, 66, 67, 68, 69, 70, 71, 72, 73, 74, 75, 76, 77, 78, 79, 80, 81, 82, 83, 84, 85, 86, 87, 88, 89, 90, 91, 92, 93, 94, 95, 96, 97, 98, 99, 100, 101, 102, 103, 104, 105, 106, 107, 108, 109, 110, 111, 112, 113, 114, 115, 116, 117, 118, 119, 120, 121, 122, 123, 124, 125, 126, 127, 128, 129, 130, 131, 132, 133, 134, 135, 136, 137, 138, 139, 140, 141, 142, 143, 144, 145, 146, 147, 148, 149, 150, 151, 152, 153, 154, 155, 156, 157, 158, 159, 160, 161, 162, 163, 164, 165, 166, 167, 168, 169, 170, 171, 172, 173, 174, 175, 176, 177, 178, 179, 180, 181, 182, 183, 184, 185, 213, 214, 215, 206, 207, 208, 209, 210, 211, 212, 195, 196, 197, 198, 199, 200, 201, 202, 203, 204, 205, 216, 217, 218, 219, 220, 221, 222] (by decide +kernel) (by decide +kernel)
set_option maxRecDepth 20000 in
theorem gX8_guards_X8_found : GoodIn wsX8_guards (wsV RX8 164 RX8 yX8_found wsX8_found) := goodIn_app (goodIn_of _ (by decide +kernel)) ggX8_guards_X8_found
set_option maxRecDepth 20000 in
theorem ggX8_guards_Jx4a65c_iterator_32c93 : GoodIn wsX8_guards wsJx4a65c_iterator_32c93 := goodIn_r _ [51, 52, 53, 54, 55, 56, 57, 58, 59, 27, 28, 60, 61, 62, 63, 219, 220, 221, 222, 213, 214, 215] (by decide +kernel) (by decide +kernel)
set_option maxRecDepth 20000 in
theorem gX8_guards_Jx4a65c_iterator_32c93 : GoodIn wsX8_guards (wsV RX8 70 RJx4a65c yJx4a65c_iterator_32c93 wsJx4a65c_iterator_32c93) := goodIn_app (goodIn_of _ (by decide +kernel)) ggX8_guards_Jx4a65c_iterator_32c93
set_option maxRecDepth 20000 in
theorem ggX8_guards_Jx35411_hasNext_aae02 : GoodIn wsX8_guards wsJx35411_hasNext_aae02 := goodIn_r _ [67, 68, 58, 219, 220, 221, 222, 213, 214, 215] (by decide +kernel) (by decide +kernel)
set_option maxRecDepth 20000 in
theorem gX8_guards_Jx35411_hasNext_aae02_f74Jx35411 : GoodIn wsX8_guards (va_wsF RX8 74 RJx35411 ⟨"java/util/Iterator", "hasNext", "()Z"⟩ yJx35411_hasNext_aae02 wsJx35411_hasNext_aae02) := goodIn_app (goodIn_of _ (by decide +kernel)) ggX8_guards_Jx35411_hasNext_aae02
set_option maxRecDepth 20000 in
theorem ggX8_guards_Jx35411_next_0502b : GoodIn wsX8_guards wsJx35411_next_0502b := goodIn_r _ [72, 68, 58, 73, 60, 74, 75, 76, 54, 77, 61, 62, 63, 219, 220, 221, 222, 213, 214, 215] (by decide +kernel) (by decide +kernel)
set_option maxRecDepth 20000 in
theorem gX8_guards_Jx35411_next_0502b_f79Jx35411 : GoodIn wsX8_guards (va_wsF RX8 79 RJx35411 ⟨"java/util/Iterator", "next", "()Ljava/lang/Object;"⟩ yJx35411_next_0502b wsJx35411_next_0502b) := goodIn_app (goodIn_of _ (by decide +kernel)) ggX8_guards_Jx35411_next_0502b
set_option maxRecDepth 20000 in
theorem ggX8_guards_X8_unsure : GoodIn wsX8_guards wsX8_unsure := goodIn_r _ [189, 37, 38, 190, 191, 192, 7, 193, 194, 156, 41, 157, 48, 49, 50, 11, 51, 52, 53, 54, 55, 56, 57, 58, 59, 27, 28, 60, 61, 62, 63, 64, 65, 66, 67, 68, 69, 70, 71, 72, 73, 74, 75, 76, 77, 33, 34, 35, 36, 39, 40, 42, 43, 44, 45, 46, 47, 82, 83, 84, 85, 86, 87, 88, 89, 90, 91, 195, 196, 197, 198, 199, 200, 201, 202, 203, 204, 205, 216, 217, 218, 219, 220, 221, 222, 213, 214, 215] (by decide +kernel) (by decide +kernel)
set_option maxRecDepth 20000 in
theorem gX8_guards_X8_unsure : GoodIn wsX8_guards (wsV RX8 168 RX8 yX8_unsure wsX8_unsure) := goodIn_app (goodIn_of _ (by decide +kernel)) ggX8_guards_X8_unsure
set_option maxRecDepth 20000 in
theorem ggX8_guards_X8_shortest : GoodIn wsX8_guards wsX8_shortest := goodIn_r _ [36, 37, 38, 39, 40, 41, 42, 43, 44, 45, 11, 46, 47, 48, 49, 50, 51, 52, 53, 54, 55, 56, 57, 58, 59, 27, 28, 60, 61, 62, 63, 64, 65, 66, 67, 68, 69, 70, 71, 72, 73, 74, 75, 76, 77, 195, 196, 197, 198, 199, 200, 201, 202, 203, 204, 205, 216, 217, 218, 213, 214, 215, 219, 220, 221, 222] (by decide +kernel) (by decide +kernel)
set_option maxRecDepth 20000 in
theorem gX8_guards_X8_shortest : GoodIn wsX8_guards (wsV RX8 109 RX8 yX8_shortest wsX8_shortest) := goodIn_app (goodIn_of _ (by decide +kernel)) ggX8_guards_X8_shortest
theorem dX8_guards_0 : decode cX8_guards 0 = .ok (.iconst 0, 1) := by decide +kernel
theorem dX8_guards_1 : decode cX8_guards 1 = .ok (.istore_n 1, 1) := by decide +kernel
theorem dX8_guards_2 : decode cX8_guards 2 = .ok (.iconst 0, 1) := by decide +kernel
theorem dX8_guards_3 : decode cX8_guards 3 = .ok (.istore_n 2, 1) := by decide +kernel
theorem dX8_guards_4 : decode cX8_guards 4 = .ok (.iconst 0, 1) := by decide +kernel
theorem dX8_guards_5 : decode cX8_guards 5 = .ok (.istore_n 3, 1) := by decide +kernel
theorem dX8_guards_6 : decode cX8_guards 6 = .ok (.iconst 0, 1) := by decide +kernel
theorem dX8_guards_7 : decode cX8_guards 7 = .ok (.istore 4, 2) := by decide +kernel
theorem dX8_guards_9 : decode cX8_guards 9 = .ok (.sipush 256, 3) := by decide +kernel
theorem dX8_guards_12 : decode cX8_guards 12 = .ok (.newarray .int, 2) := by decide +kernel
theorem dX8_guards_14 : decode cX8_guards 14 = .ok (.astore 5, 2) := by decide +kernel
theorem dX8_guards_16 : decode cX8_guards 16 = .ok (.aload_n 0, 1) := by decide +kernel
theorem dX8_guards_17 : decode cX8_guards 17 = .ok (.aload_n 0, 1) := by decide +kernel
theorem dX8_guards_18 : decode cX8_guards 18 = .ok (.getfield 38, 3) := by decide +kernel
theorem dX8_guards_21 : decode cX8_guards 21 = .ok (.invokevirtual 164, 3) := by decide +kernel
theorem dX8_guards_24 : decode cX8_guards 24 = .ok (.invokevirtual 70, 3) := by decide +kernel
theorem dX8_guards_27 : decode cX8_guards 27 = .ok (.astore 6, 2) := by decide +kernel
theorem dX8_guards_29 : decode cX8_guards 29 = .ok (.aload 6, 2) := by decide +kernel
theorem dX8_guards_31 : decode cX8_guards 31 = .ok (.invokeinterface 74 1, 5) := by decide +kernel
theorem dX8_guards_36 : decode cX8_guards 36 = .ok (.ifCond .eq 113, 3) := by decide +kernel
theorem dX8_guards_39 : decode cX8_guards 39 = .ok (.aload 6, 2) := by decide +kernel
theorem dX8_guards_41 : decode cX8_guards 41 = .ok (.invokeinterface 79 1, 5) := by decide +kernel
theorem dX8_guards_46 : decode cX8_guards 46 = .ok (.checkcast 131, 3) := by decide +kernel
theorem dX8_guards_49 : decode cX8_guards 49 = .ok (.astore 7, 2) := by decide +kernel
theorem dX8_guards_51 : decode cX8_guards 51 = .ok (.iload_n 3, 1) := by decide +kernel
theorem dX8_guards_52 : decode cX8_guards 52 = .ok (.aload 7, 2) := by decide +kernel
theorem dX8_guards_54 : decode cX8_guards 54 = .ok (.getfield 130, 3) := by decide +kernel
theorem dX8_guards_57 : decode cX8_guards 57 = .ok (.ifCond .ne 7, 3) := by decide +kernel
theorem dX8_guards_60 : decode cX8_guards 60 = .ok (.iconst 1, 1) := by decide +kernel
theorem dX8_guards_61 : decode cX8_guards 61 = .ok (.goto 4, 3) := by decide +kernel
theorem dX8_guards_64 : decode cX8_guards 64 = .ok (.iconst 0, 1) := by decide +kernel
theorem dX8_guards_65 : decode cX8_guards 65 = .ok (.ior, 1) := by decide +kernel
theorem dX8_guards_66 : decode cX8_guards 66 = .ok (.istore_n 3, 1) := by decide +kernel
theorem dX8_guards_67 : decode cX8_guards 67 = .ok (.iload 4, 2) := by decide +kernel
theorem dX8_guards_69 : decode cX8_guards 69 = .ok (.aload 7, 2) := by decide +kernel
theorem dX8_guards_71 : decode cX8_guards 71 = .ok (.getfield 130, 3) := by decide +kernel
theorem dX8_guards_74 : decode cX8_guards 74 = .ok (.iconst 1, 1) := by decide +kernel
theorem dX8_guards_75 : decode cX8_guards 75 = .ok (.if_icmp .ne 7, 3) := by decide +kernel
theorem dX8_guards_78 : decode cX8_guards 78 = .ok (.iconst 1, 1) := by decide +kernel
theorem dX8_guards_79 : decode cX8_guards 79 = .ok (.goto 4, 3) := by decide +kernel
theorem dX8_guards_82 : decode cX8_guards 82 = .ok (.iconst 0, 1) := by decide +kernel
theorem dX8_guards_83 : decode cX8_guards 83 = .ok (.ior, 1) := by decide +kernel
theorem dX8_guards_84 : decode cX8_guards 84 = .ok (.istore 4, 2) := by decide +kernel
theorem dX8_guards_86 : decode cX8_guards 86 = .ok (.aload 7, 2) := by decide +kernel
theorem dX8_guards_88 : decode cX8_guards 88 = .ok (.getfield 130, 3) := by decide +kernel
theorem dX8_guards_91 : decode cX8_guards 91 = .ok (.iconst 2, 1) := by decide +kernel
theorem dX8_guards_92 : decode cX8_guards 92 = .ok (.if_icmp .eq 6, 3) := by decide +kernel
theorem dX8_guards_95 : decode cX8_guards 95 = .ok (.goto (-66), 3) := by decide +kernel
theorem dX8_guards_98 : decode cX8_guards 98 = .ok (.iload_n 1, 1) := by decide +kernel
theorem dX8_guards_99 : decode cX8_guards 99 = .ok (.aload 7, 2) := by decide +kernel
theorem dX8_guards_101 : decode cX8_guards 101 = .ok (.getfield 157, 3) := by decide +kernel
theorem dX8_guards_104 : decode cX8_guards 104 = .ok (.ifCond .ne 7, 3) := by decide +kernel
theorem dX8_guards_107 : decode cX8_guards 107 = .ok (.iconst 1, 1) := by decide +kernel
theorem dX8_guards_108 : decode cX8_guards 108 = .ok (.goto 4, 3) := by decide +kernel
theorem dX8_guards_111 : decode cX8_guards 111 = .ok (.iconst 0, 1) := by decide +kernel
theorem dX8_guards_112 : decode cX8_guards 112 = .ok (.ior, 1) := by decide +kernel
theorem dX8_guards_113 : decode cX8_guards 113 = .ok (.istore_n 1, 1) := by decide +kernel
theorem dX8_guards_114 : decode cX8_guards 114 = .ok (.aload 5, 2) := by decide +kernel
theorem dX8_guards_116 : decode cX8_guards 116 = .ok (.aload 7, 2) := by decide +kernel
theorem dX8_guards_118 : decode cX8_guards 118 = .ok (.getfield 148, 3) := by decide +kernel
theorem dX8_guards_121 : decode cX8_guards 121 = .ok (.dup2, 1) := by decide +kernel
theorem dX8_guards_122 : decode cX8_guards 122 = .ok (.iaload, 1) := by decide +kernel
theorem dX8_guards_123 : decode cX8_guards 123 = .ok (.iconst 1, 1) := by decide +kernel
theorem dX8_guards_124 : decode cX8_guards 124 = .ok (.iadd, 1) := by decide +kernel
theorem dX8_guards_125 : decode cX8_guards 125 = .ok (.iastore, 1) := by decide +kernel
theorem dX8_guards_126 : decode cX8_guards 126 = .ok (.iload_n 2, 1) := by decide +kernel
theorem dX8_guards_127 : decode cX8_guards 127 = .ok (.aload 5, 2) := by decide +kernel
theorem dX8_guards_129 : decode cX8_guards 129 = .ok (.aload 7, 2) := by decide +kernel
theorem dX8_guards_131 : decode cX8_guards 131 = .ok (.getfield 148, 3) := by decide +kernel
theorem dX8_guards_134 : decode cX8_guards 134 = .ok (.iaload, 1) := by decide +kernel
theorem dX8_guards_135 : decode cX8_guards 135 = .ok (.iconst 2, 1) := by decide +kernel
theorem dX8_guards_136 : decode cX8_guards 136 = .ok (.if_icmp .ne 7, 3) := by decide +kernel
theorem dX8_guards_139 : decode cX8_guards 139 = .ok (.iconst 1, 1) := by decide +kernel
theorem dX8_guards_140 : decode cX8_guards 140 = .ok (.goto 4, 3) := by decide +kernel
theorem dX8_guards_143 : decode cX8_guards 143 = .ok (.iconst 0, 1) := by decide +kernel
theorem dX8_guards_144 : decode cX8_guards 144 = .ok (.ior, 1) := by decide +kernel
theorem dX8_guards_145 : decode cX8_guards 145 = .ok (.istore_n 2, 1) := by decide +kernel
theorem dX8_guards_146 : decode cX8_guards 146 = .ok (.goto (-117), 3) := by decide +kernel
theorem dX8_guards_149 : decode cX8_guards 149 = .ok (.iload_n 1, 1) := by decide +kernel
theorem dX8_guards_150 : decode cX8_guards 150 = .ok (.ifCond .eq 7, 3) := by decide +kernel
theorem dX8_guards_153 : decode cX8_guards 153 = .ok (.iconst 1, 1) := by decide +kernel
theorem dX8_guards_154 : decode cX8_guards 154 = .ok (.goto 4, 3) := by decide +kernel
theorem dX8_guards_157 : decode cX8_guards 157 = .ok (.iconst 0, 1) := by decide +kernel
theorem dX8_guards_158 : decode cX8_guards 158 = .ok (.iload_n 2, 1) := by decide +kernel
theorem dX8_guards_159 : decode cX8_guards 159 = .ok (.ifCond .eq 7, 3) := by decide +kernel
theorem dX8_guards_162 : decode cX8_guards 162 = .ok (.iconst 2, 1) := by decide +kernel
theorem dX8_guards_163 : decode cX8_guards 163 = .ok (.goto 4, 3) := by decide +kernel
theorem dX8_guards_166 : decode cX8_guards 166 = .ok (.iconst 0, 1) := by decide +kernel
theorem dX8_guards_167 : decode cX8_guards 167 = .ok (.iadd, 1) := by decide +kernel
theorem dX8_guards_168 : decode cX8_guards 168 = .ok (.aload_n 0, 1) := by decide +kernel
theorem dX8_guards_169 : decode cX8_guards 169 = .ok (.invokevirtual 168, 3) := by decide +kernel
theorem dX8_guards_172 : decode cX8_guards 172 = .ok (.ifCond .le 7, 3) := by decide +kernel
theorem dX8_guards_175 : decode cX8_guards 175 = .ok (.iconst 4, 1) := by decide +kernel
theorem dX8_guards_176 : decode cX8_guards 176 = .ok (.goto 4, 3) := by decide +kernel
theorem dX8_guards_179 : decode cX8_guards 179 = .ok (.iconst 0, 1) := by decide +kernel
theorem dX8_guards_180 : decode cX8_guards 180 = .ok (.iadd, 1) := by decide +kernel
theorem dX8_guards_181 : decode cX8_guards 181 = .ok (.iload_n 3, 1) := by decide +kernel
theorem dX8_guards_182 : decode cX8_guards 182 = .ok (.ifCond .eq 8, 3) := by decide +kernel
theorem dX8_guards_185 : decode cX8_guards 185 = .ok (.bipush 8, 2) := by decide +kernel
theorem dX8_guards_187 : decode cX8_guards 187 = .ok (.goto 4, 3) := by decide +kernel
theorem dX8_guards_190 : decode cX8_guards 190 = .ok (.iconst 0, 1) := by decide +kernel
theorem dX8_guards_191 : decode cX8_guards 191 = .ok (.iadd, 1) := by decide +kernel
theorem dX8_guards_192 : decode cX8_guards 192 = .ok (.iload 4, 2) := by decide +kernel
theorem dX8_guards_194 : decode cX8_guards 194 = .ok (.ifCond .eq 8, 3) := by decide +kernel
theorem dX8_guards_197 : decode cX8_guards 197 = .ok (.bipush 16, 2) := by decide +kernel
theorem dX8_guards_199 : decode cX8_guards 199 = .ok (.goto 4, 3) := by decide +kernel
theorem dX8_guards_202 : decode cX8_guards 202 = .ok (.iconst 0, 1) := by decide +kernel
theorem dX8_guards_203 : decode cX8_guards 203 = .ok (.iadd, 1) := by decide +kernel
theorem dX8_guards_204 : decode cX8_guards 204 = .ok (.aload_n 0, 1) := by decide +kernel
theorem dX8_guards_205 : decode cX8_guards 205 = .ok (.invokevirtual 109, 3) := by decide +kernel
theorem dX8_guards_208 : decode cX8_guards 208 = .ok (.sipush 300, 3) := by decide +kernel
theorem dX8_guards_211 : decode cX8_guards 211 = .ok (.if_icmp .le 8, 3) := by decide +kernel
theorem dX8_guards_214 : decode cX8_guards 214 = .ok (.bipush 32, 2) := by decide +kernel
theorem dX8_guards_216 : decode cX8_guards 216 = .ok (.goto 4, 3) := by decide +kernel
theorem dX8_guards_219 : decode cX8_guards 219 = .ok (.iconst 0, 1) := by decide +kernel
theorem dX8_guards_220 : decode cX8_guards 220 = .ok (.iadd, 1) := by decide +kernel
theorem dX8_guards_221 : decode cX8_guards 221 = .ok (.ireturn, 1) := by decide +kernel
set_option maxRecDepth 20000 in
theorem ggX8_kept_Jx4a65c_init_da8c8 : GoodIn wsX8_kept wsJx4a65c_init_da8c8 := goodIn_r _ [8, 9, 10, 11, 12, 13, 14, 15, 16, 17, 18, 19, 20, 21, 22, 189, 190, 191] (by decide +kernel) (by decide +kernel)
set_option maxRecDepth 20000 in
theorem gX8_kept_Jx4a65c_init_da8c8 : GoodIn wsX8_kept (wsJx4a65c_init_da8c8) := ggX8_kept_Jx4a65c_init_da8c8
set_option maxRecDepth 20000 in
theorem ggX8_kept_X8_found : GoodIn wsX8_kept wsX8_found := goodIn_r _ [27, 1, 2, 3, 6, 7, 8, 9, 10, 11, 12, 13, 14, 15, 16, 17, 18, 19, 20, 21, 22, 28, 29, 30, 26, 31, 32, 33, 34, 35, 36, 37, 38, 39, 40, 41, 42, 43, 44, 45, 46, 47, 48, 49, 50, 51, 52, 53, 54, 55, 56, 57, 58, 59, 60, 61, 62, 63, 64, 65, 66, 67, 68, 69, 70, 71, 72, 73, 74, 75, 76, 77, 78, 79, 80, 81, 82, 83, 84, 85, 86, 87, 88, 89, 90, 91, 92, 93, 94, 95, 96, 97, 98, 99, 100, 101, 102, 103, 104, 105, 106, 107, 108, 109, 110, 111, 112, 113, 114, 115, 116, 117, 118, 119, 120, 121, 122, 123, 124, 125, 126, 127, 128, 129, 130, 131, 132, 133, 134, 135, 136, 137, 138, 139, 140, 141, 142, 143, 144, 145, 146, 147, 148, 149, 150, 151, 152, 153, 154, 155, 156, 157, 158, 159, 160, 161, 162, 163, 164, 165, 166, 167, 168, 169, 170, 171, 172, 173, 174, 175, 176, 177, 178, 179, 180, 181, 182, 183, 184, 185, 189, 190, 191, 203, 204, 205, 206, 207, 208, 209, 192, 193, 194, 195, 196, 197, 198, 199, 200, 201, 202, 210, 211, 212, 213, 214, 215, 216] (by decide +kernel) (by decide +kernel)
set_option maxRecDepth 20000 in
theorem gX8_kept_X8_found : GoodIn wsX8_kept (wsV RX8 164 RX8 yX8_found wsX8_found) := goodIn_app (goodIn_of _ (by decide +kernel)) ggX8_kept_X8_found
set_option maxRecDepth 20000 in
theorem ggX8_kept_Jx4a65c_iterator_32c93 : GoodIn wsX8_kept wsJx4a65c_iterator_32c93 := goodIn_r _ [51, 52, 53, 54, 55, 56, 57, 58, 59, 21, 22, 60, 61, 62, 63, 213, 214, 215, 216, 189, 190, 191] (by decide +kernel) (by decide +kernel)
set_option maxRecDepth 20000 in
theorem gX8_kept_Jx4a65c_iterator_32c93 : GoodIn wsX8_kept (wsV RX8 70 RJx4a65c yJx4a65c_iterator_32c93 wsJx4a65c_iterator_32c93) := goodIn_app (goodIn_of _ (by decide +kernel)) ggX8_kept_Jx4a65c_iterator_32c93
set_option maxRecDepth 20000 in
theorem ggX8_kept_Jx35411_hasNext_aae02 : GoodIn wsX8_kept wsJx35411_hasNext_aae02 := goodIn_r _ [67, 68, 58, 213, 214, 215, 216, 189, 190, 191] (by decide +kernel) (by decide +kernel)
set_option maxRecDepth 20000 in
theorem gX8_kept_Jx35411_hasNext_aae02_f74Jx35411 : GoodIn wsX8_kept (va_wsF RX8 74 RJx35411 ⟨"java/util/Iterator", "hasNext", "()Z"⟩ yJx35411_hasNext_aae02 wsJx35411_hasNext_aae02) := goodIn_app (goodIn_of _ (by decide +kernel)) ggX8_kept_Jx35411_hasNext_aae02
set_option maxRecDepth 20000 in
theorem ggX8_kept_Jx35411_next_0502b : GoodIn wsX8_kept wsJx35411_next_0502b := goodIn_r _ [72, 68, 58, 73, 60, 74, 75, 76, 54, 77, 61, 62, 63, 213, 214, 215, 216, 189, 190, 191] (by decide +kernel) (by decide +kernel)
set_option maxRecDepth 20000 in
theorem gX8_kept_Jx35411_next_0502b_f79Jx35411 : GoodIn wsX8_kept (va_wsF RX8 79 RJx35411 ⟨"java/util/Iterator", "next", "()Ljava/lang/Object;"⟩ yJx35411_next_0502b wsJx35411_next_0502b) := goodIn_app (goodIn_of _ (by decide +kernel)) ggX8_kept_Jx35411_next_0502b
set_option maxRecDepth 20000 in
theorem ggX8_kept_X8_firstGood : GoodIn wsX8_kept wsX8_firstGood := goodIn_r _ [188, 5, 48, 49, 50, 3, 51, 52, 53, 54, 55, 56, 57, 58, 59, 21, 22, 60, 61, 62, 63, 64, 65, 66, 67, 68, 69, 70, 71, 72, 73, 74, 75, 76, 77, 203, 204, 205, 206, 207, 208, 209, 213, 214, 215, 216, 189, 190, 191] (by decide +kernel) (by decide +kernel)
set_option maxRecDepth 20000 in
theorem gX8_kept_X8_firstGood : GoodIn wsX8_kept (va_wsS RX8 171 yX8_firstGood wsX8_firstGood) := goodIn_app (goodIn_of _ (by decide +kernel)) ggX8_kept_X8_firstGood
set_option maxRecDepth 20000 in
theorem ggX8_kept_Jx4a65c_add_9ea2d : GoodIn wsX8_kept wsJx4a65c_add_9ea2d := goodIn_r _ [141, 142, 62, 10, 47, 143, 144, 145, 3, 146, 147, 148, 149, 150, 151, 152, 153, 154, 9, 155, 156, 41, 157, 158, 159, 160, 161, 162, 163, 164, 165, 166, 167, 168, 169, 170, 171, 172, 173, 174, 175, 176, 177, 178, 179, 180, 181, 40, 42, 182, 183, 184, 185, 189, 190, 191] (by decide +kernel) (by decide +kernel)
set_option maxRecDepth 20000 in
theorem gX8_kept_Jx4a65c_add_9ea2d : GoodIn wsX8_kept (wsV RX8 127 RJx4a65c yJx4a65c_add_9ea2d wsJx4a65c_add_9ea2d) := goodIn_app (goodIn_of _ (by decide +kernel)) ggX8_kept_Jx4a65c_add_9ea2d
theorem dX8_kept_0 : decode cX8_kept 0 = .ok (.new 31, 3) := by decide +kernel
theorem dX8_kept_3 : decode cX8_kept 3 = .ok (.dup, 1) := by decide +kernel
theorem dX8_kept_4 : decode cX8_kept 4 = .ok (.invokespecial 33, 3) := by decide +kernel
theorem dX8_kept_7 : decode cX8_kept 7 = .ok (.astore_n 1, 1) := by decide +kernel
theorem dX8_kept_8 : decode cX8_kept 8 = .ok (.aload_n 0, 1) := by decide +kernel
theorem dX8_kept_9 : decode cX8_kept 9 = .ok (.aload_n 0, 1) := by decide +kernel
theorem dX8_kept_10 : decode cX8_kept 10 = .ok (.getfield 38, 3) := by decide +kernel
theorem dX8_kept_13 : decode cX8_kept 13 = .ok (.invokevirtual 164, 3) := by decide +kernel
theorem dX8_kept_16 : decode cX8_kept 16 = .ok (.invokevirtual 70, 3) := by decide +kernel
theorem dX8_kept_19 : decode cX8_kept 19 = .ok (.astore_n 2, 1) := by decide +kernel
theorem dX8_kept_20 : decode cX8_kept 20 = .ok (.aload_n 2, 1) := by decide +kernel
theorem dX8_kept_21 : decode cX8_kept 21 = .ok (.invokeinterface 74 1, 5) := by decide +kernel
theorem dX8_kept_26 : decode cX8_kept 26 = .ok (.ifCond .eq 48, 3) := by decide +kernel
theorem dX8_kept_29 : decode cX8_kept 29 = .ok (.aload_n 2, 1) := by decide +kernel
theorem dX8_kept_30 : decode cX8_kept 30 = .ok (.invokeinterface 79 1, 5) := by decide +kernel
theorem dX8_kept_35 : decode cX8_kept 35 = .ok (.checkcast 131, 3) := by decide +kernel
theorem dX8_kept_38 : decode cX8_kept 38 = .ok (.astore_n 3, 1) := by decide +kernel
theorem dX8_kept_39 : decode cX8_kept 39 = .ok (.aload_n 3, 1) := by decide +kernel
theorem dX8_kept_40 : decode cX8_kept 40 = .ok (.getfield 130, 3) := by decide +kernel
theorem dX8_kept_43 : decode cX8_kept 43 = .ok (.iconst 2, 1) := by decide +kernel
theorem dX8_kept_44 : decode cX8_kept 44 = .ok (.if_icmp .ne 27, 3) := by decide +kernel
theorem dX8_kept_47 : decode cX8_kept 47 = .ok (.aload_n 3, 1) := by decide +kernel
theorem dX8_kept_48 : decode cX8_kept 48 = .ok (.getfield 157, 3) := by decide +kernel
theorem dX8_kept_51 : decode cX8_kept 51 = .ok (.ifCond .eq 20, 3) := by decide +kernel
theorem dX8_kept_54 : decode cX8_kept 54 = .ok (.aload_n 1, 1) := by decide +kernel
theorem dX8_kept_55 : decode cX8_kept 55 = .ok (.aload_n 3, 1) := by decide +kernel
theorem dX8_kept_56 : decode cX8_kept 56 = .ok (.getfield 148, 3) := by decide +kernel
theorem dX8_kept_59 : decode cX8_kept 59 = .ok (.invokestatic 171, 3) := by decide +kernel
theorem dX8_kept_62 : decode cX8_kept 62 = .ok (.ifnonnull 9, 3) := by decide +kernel
theorem dX8_kept_65 : decode cX8_kept 65 = .ok (.aload_n 1, 1) := by decide +kernel
theorem dX8_kept_66 : decode cX8_kept 66 = .ok (.aload_n 3, 1) := by decide +kernel
theorem dX8_kept_67 : decode cX8_kept 67 = .ok (.invokevirtual 127, 3) := by decide +kernel
theorem dX8_kept_70 : decode cX8_kept 70 = .ok (.pop, 1) := by decide +kernel
theorem dX8_kept_71 : decode cX8_kept 71 = .ok (.goto (-51), 3) := by decide +kernel
theorem dX8_kept_74 : decode cX8_kept 74 = .ok (.aload_n 1, 1) := by decide +kernel
theorem dX8_kept_75 : decode cX8_kept 75 = .ok (.areturn, 1) := by decide +kernel
set_option maxRecDepth 20000 in
theorem ggX8_firstGood_Jx4a65c_iterator_32c93 : GoodIn wsX8_firstGood wsJx4a65c_iterator_32c93 := goodIn_r _ [6, 7, 8, 9, 10, 11, 12, 13, 14, 15, 16, 17, 18, 19, 20, 42, 43, 44, 45, 46, 47, 48] (by decide +kernel) (by decide +kernel)
set_option maxRecDepth 20000 in
theorem gX8_firstGood_Jx4a65c_iterator_32c93 : GoodIn wsX8_firstGood (wsV RX8 70 RJx4a65c yJx4a65c_iterator_32c93 wsJx4a65c_iterator_32c93) := goodIn_app (goodIn_of _ (by decide +kernel)) ggX8_firstGood_Jx4a65c_iterator_32c93
set_option maxRecDepth 20000 in
theorem ggX8_firstGood_Jx35411_hasNext_aae02 : GoodIn wsX8_firstGood wsJx35411_hasNext_aae02 := goodIn_r _ [24, 25, 13, 42, 43, 44, 45, 46, 47, 48] (by decide +kernel) (by decide +kernel)
set_option maxRecDepth 20000 in
theorem gX8_firstGood_Jx35411_hasNext_aae02_f74Jx35411 : GoodIn wsX8_firstGood (va_wsF RX8 74 RJx35411 ⟨"java/util/Iterator", "hasNext", "()Z"⟩ yJx35411_hasNext_aae02 wsJx35411_hasNext_aae02) := goodIn_app (goodIn_of _ (by decide +kernel)) ggX8_firstGood_Jx35411_hasNext_aae02
set_option maxRecDepth 20000 in
theorem ggX8_firstGood_Jx35411_next_0502b : GoodIn wsX8_firstGood wsJx35411_next_0502b := goodIn_r _ [29, 25, 13, 30, 17, 31, 32, 33, 9, 34, 18, 19, 20, 42, 43, 44, 45, 46, 47, 48] (by decide +kernel) (by decide +kernel)
set_option maxRecDepth 20000 in
theorem gX8_firstGood_Jx35411_next_0502b_f79Jx35411 : GoodIn wsX8_firstGood (va_wsF RX8 79 RJx35411 ⟨"java/util/Iterator", "next", "()Ljava/lang/Object;"⟩ yJx35411_next_0502b wsJx35411_next_0502b) := goodIn_app (goodIn_of _ (by decide +kernel)) ggX8_firstGood_Jx35411_next_0502b
theorem dX8_firstGood_0 : decode cX8_firstGood 0 = .ok (.aload_n 0, 1) := by decide +kernel
theorem dX8_firstGood_1 : decode cX8_firstGood 1 = .ok (.invokevirtual 70, 3) := by decide +kernel
theorem dX8_firstGood_4 : decode cX8_firstGood 4 = .ok (.astore_n 2, 1) := by decide +kernel
theorem dX8_firstGood_5 : decode cX8_firstGood 5 = .ok (.aload_n 2, 1) := by decide +kernel
theorem dX8_firstGood_6 : decode cX8_firstGood 6 = .ok (.invokeinterface 74 1, 5) := by decide +kernel
theorem dX8_firstGood_11 : decode cX8_firstGood 11 = .ok (.ifCond .eq 41, 3) := by decide +kernel
theorem dX8_firstGood_14 : decode cX8_firstGood 14 = .ok (.aload_n 2, 1) := by decide +kernel
theorem dX8_firstGood_15 : decode cX8_firstGood 15 = .ok (.invokeinterface 79 1, 5) := by decide +kernel
theorem dX8_firstGood_20 : decode cX8_firstGood 20 = .ok (.checkcast 131, 3) := by decide +kernel
theorem dX8_firstGood_23 : decode cX8_firstGood 23 = .ok (.astore_n 3, 1) := by decide +kernel
theorem dX8_firstGood_24 : decode cX8_firstGood 24 = .ok (.aload_n 3, 1) := by decide +kernel
theorem dX8_firstGood_25 : decode cX8_firstGood 25 = .ok (.getfield 130, 3) := by decide +kernel
theorem dX8_firstGood_28 : decode cX8_firstGood 28 = .ok (.iconst 2, 1) := by decide +kernel
theorem dX8_firstGood_29 : decode cX8_firstGood 29 = .ok (.if_icmp .ne 20, 3) := by decide +kernel
theorem dX8_firstGood_32 : decode cX8_firstGood 32 = .ok (.aload_n 3, 1) := by decide +kernel
theorem dX8_firstGood_33 : decode cX8_firstGood 33 = .ok (.getfield 157, 3) := by decide +kernel
theorem dX8_firstGood_36 : decode cX8_firstGood 36 = .ok (.ifCond .eq 13, 3) := by decide +kernel
theorem dX8_firstGood_39 : decode cX8_firstGood 39 = .ok (.aload_n 3, 1) := by decide +kernel
theorem dX8_firstGood_40 : decode cX8_firstGood 40 = .ok (.getfield 148, 3) := by decide +kernel
theorem dX8_firstGood_43 : decode cX8_firstGood 43 = .ok (.iload_n 1, 1) := by decide +kernel
theorem dX8_firstGood_44 : decode cX8_firstGood 44 = .ok (.if_icmp .ne 5, 3) := by decide +kernel
theorem dX8_firstGood_47 : decode cX8_firstGood 47 = .ok (.aload_n 3, 1) := by decide +kernel
theorem dX8_firstGood_48 : decode cX8_firstGood 48 = .ok (.areturn, 1) := by decide +kernel
theorem dX8_firstGood_49 : decode cX8_firstGood 49 = .ok (.goto (-44), 3) := by decide +kernel
theorem dX8_firstGood_52 : decode cX8_firstGood 52 = .ok (.aconst_null, 1) := by decide +kernel
theorem dX8_firstGood_53 : decode cX8_firstGood 53 = .ok (.areturn, 1) := by decide +kernel
set_option maxRecDepth 20000 in
theorem ggX8_plainFrom_X8_kept : GoodIn wsX8_plainFrom wsX8_kept := goodIn_r _ [7, 8, 9, 10, 11, 1, 12, 13, 14, 15, 16, 17, 18, 19, 20, 21, 22, 23, 24, 25, 26, 27, 28, 29, 30, 31, 6, 32, 33, 34, 35, 36, 37, 38, 39, 40, 41, 42, 43, 44, 45, 46, 47, 48, 49, 50, 51, 52, 53, 54, 55, 56, 57, 58, 59, 60, 61, 62, 63, 64, 65, 66, 67, 68, 69, 70, 71, 72, 73, 74, 75, 76, 77, 78, 79, 80, 81, 82, 83, 84, 85, 86, 87, 88, 89, 90, 91, 92, 93, 94, 95, 96, 97, 98, 99, 100, 101, 102, 103, 104, 105, 106, 107, 108, 109, 110, 111, 112, 113, 114, 115, 116, 117, 118, 119, 120, 121, 122, 123, 124, 125, 126, 127, 128, 129, 130, 131, 132, 133, 134, 135, 136, 137, 138, 139, 140, 141, 142, 143, 144, 145, 146, 147, 148, 149, 150, 151, 152, 153, 154, 155, 156, 157, 158, 159, 160, 161, 162, 163, 164, 165, 166, 167, 168, 169, 170, 171, 172, 173, 174, 175, 176, 177, 178, 179, 180, 181, 182, 183, 184, 185, 186, 187, 188, 189, 190, 191, 192, 193, 242, 243, 244, 224, 225, 226, 227, 228, 229, 230, 231, 232, 233, 234, 235, 236, 237, 238, 239, 240, 241, 245, 246, 247, 248, 249, 250, 251] (by decide +kernel) (by decide +kernel)
set_option maxRecDepth 20000 in
theorem gX8_plainFrom_X8_kept : GoodIn wsX8_plainFrom (wsV RX8 175 RX8 yX8_kept wsX8_kept) := goodIn_app (goodIn_of _ (by decide +kernel)) ggX8_plainFrom_X8_kept
set_option maxRecDepth 20000 in
theorem ggX8_plainFrom_Jx4a65c_iterator_32c93 : GoodIn wsX8_plainFrom wsJx4a65c_iterator_32c93 := goodIn_r _ [56, 57, 58, 59, 60, 61, 62, 63, 64, 27, 28, 65, 66, 67, 68, 248, 249, 250, 251, 242, 243, 244] (by decide +kernel) (by decide +kernel)
set_option maxRecDepth 20000 in
theorem gX8_plainFrom_Jx4a65c_iterator_32c93 : GoodIn wsX8_plainFrom (wsV RX8 70 RJx4a65c yJx4a65c_iterator_32c93 wsJx4a65c_iterator_32c93) := goodIn_app (goodIn_of _ (by decide +kernel)) ggX8_plainFrom_Jx4a65c_iterator_32c93
set_option maxRecDepth 20000 in
theorem ggX8_plainFrom_Jx35411_hasNext_aae02 : GoodIn wsX8_plainFrom wsJx35411_hasNext_aae02 := goodIn_r _ [72, 73, 63, 248, 249, 250, 251, 242, 243, 244] (by decide +kernel) (by decide +kernel)
set_option maxRecDepth 20000 in
theorem gX8_plainFrom_Jx35411_hasNext_aae02_f74Jx35411 : GoodIn wsX8_plainFrom (va_wsF RX8 74 RJx35411 ⟨"java/util/Iterator", "hasNext", "()Z"⟩ yJx35411_hasNext_aae02 wsJx35411_hasNext_aae02) := goodIn_app (goodIn_of _ (by decide +kernel)) ggX8_plainFrom_Jx35411_hasNext_aae02
set_option maxRecDepth 20000 in
theorem ggX8_plainFrom_Jx35411_next_0502b : GoodIn wsX8_plainFrom wsJx35411_next_0502b := goodIn_r _ [77, 73, 63, 78, 65, 79, 80, 81, 59, 82, 66, 67, 68, 248, 249, 250, 251, 242, 243, 244] (by decide +kernel) (by decide +kernel)
set_option maxRecDepth 20000 in
theorem gX8_plainFrom_Jx35411_next_0502b_f79Jx35411 : GoodIn wsX8_plainFrom (va_wsF RX8 79 RJx35411 ⟨"java/util/Iterator", "next", "()Ljava/lang/Object;"⟩ yJx35411_next_0502b wsJx35411_next_0502b) := goodIn_app (goodIn_of _ (by decide +kernel)) ggX8_plainFrom_Jx35411_next_0502b
set_option maxRecDepth 20000 in
theorem ggX8_plainFrom_X8_sectorLong : GoodIn wsX8_plainFrom wsX8_sectorLong := goodIn_r _ [197, 198, 199, 200, 6, 201, 11, 224, 225, 226, 227, 228, 229, 230, 231, 232, 233, 234] (by decide +kernel) (by decide +kernel)
set_option maxRecDepth 20000 in
theorem gX8_plainFrom_X8_sectorLong : GoodIn wsX8_plainFrom (wsV RX8 179 RX8 yX8_sectorLong wsX8_sectorLong) := goodIn_app (goodIn_of _ (by decide +kernel)) ggX8_plainFrom_X8_sectorLong
set_option maxRecDepth 20000 in
theorem ggX8_plainFrom_X8_sector : GoodIn wsX8_plainFrom wsX8_sector := goodIn_r _ [205, 206, 207, 208, 6, 209, 210, 211, 212, 213, 214, 215, 2, 216, 217, 218, 219, 220, 221, 222, 223, 11, 139, 224, 225, 226, 227, 228, 229, 230, 231, 232, 233, 234] (by decide +kernel) (by decide +kernel)
set_option maxRecDepth 20000 in
theorem gX8_plainFrom_X8_sector : GoodIn wsX8_plainFrom (wsV RX8 182 RX8 yX8_sector wsX8_sector) := goodIn_app (goodIn_of _ (by decide +kernel)) ggX8_plainFrom_X8_sector
theorem dX8_plainFrom_0 : decode cX8_plainFrom 0 = .ok (.aload_n 1, 1) := by decide +kernel
theorem dX8_plainFrom_1 : decode cX8_plainFrom 1 = .ok (.invokevirtual 175, 3) := by decide +kernel
theorem dX8_plainFrom_4 : decode cX8_plainFrom 4 = .ok (.invokevirtual 70, 3) := by decide +kernel
theorem dX8_plainFrom_7 : decode cX8_plainFrom 7 = .ok (.astore_n 2, 1) := by decide +kernel
theorem dX8_plainFrom_8 : decode cX8_plainFrom 8 = .ok (.aload_n 2, 1) := by decide +kernel
theorem dX8_plainFrom_9 : decode cX8_plainFrom 9 = .ok (.invokeinterface 74 1, 5) := by decide +kernel
theorem dX8_plainFrom_14 : decode cX8_plainFrom 14 = .ok (.ifCond .eq 55, 3) := by decide +kernel
theorem dX8_plainFrom_17 : decode cX8_plainFrom 17 = .ok (.aload_n 2, 1) := by decide +kernel
theorem dX8_plainFrom_18 : decode cX8_plainFrom 18 = .ok (.invokeinterface 79 1, 5) := by decide +kernel
theorem dX8_plainFrom_23 : decode cX8_plainFrom 23 = .ok (.checkcast 131, 3) := by decide +kernel
theorem dX8_plainFrom_26 : decode cX8_plainFrom 26 = .ok (.astore_n 3, 1) := by decide +kernel
theorem dX8_plainFrom_27 : decode cX8_plainFrom 27 = .ok (.aload_n 0, 1) := by decide +kernel
theorem dX8_plainFrom_28 : decode cX8_plainFrom 28 = .ok (.getfield 42, 3) := by decide +kernel
theorem dX8_plainFrom_31 : decode cX8_plainFrom 31 = .ok (.aload_n 0, 1) := by decide +kernel
theorem dX8_plainFrom_32 : decode cX8_plainFrom 32 = .ok (.aload_n 3, 1) := by decide +kernel
theorem dX8_plainFrom_33 : decode cX8_plainFrom 33 = .ok (.getfield 135, 3) := by decide +kernel
theorem dX8_plainFrom_36 : decode cX8_plainFrom 36 = .ok (.invokevirtual 179, 3) := by decide +kernel
theorem dX8_plainFrom_39 : decode cX8_plainFrom 39 = .ok (.iadd, 1) := by decide +kernel
theorem dX8_plainFrom_40 : decode cX8_plainFrom 40 = .ok (.sipush 400, 3) := by decide +kernel
theorem dX8_plainFrom_43 : decode cX8_plainFrom 43 = .ok (.if_icmp .le 4, 3) := by decide +kernel
theorem dX8_plainFrom_46 : decode cX8_plainFrom 46 = .ok (.return_, 1) := by decide +kernel
theorem dX8_plainFrom_47 : decode cX8_plainFrom 47 = .ok (.aload_n 0, 1) := by decide +kernel
theorem dX8_plainFrom_48 : decode cX8_plainFrom 48 = .ok (.aload_n 3, 1) := by decide +kernel
theorem dX8_plainFrom_49 : decode cX8_plainFrom 49 = .ok (.getfield 148, 3) := by decide +kernel
theorem dX8_plainFrom_52 : decode cX8_plainFrom 52 = .ok (.aload_n 3, 1) := by decide +kernel
theorem dX8_plainFrom_53 : decode cX8_plainFrom 53 = .ok (.getfield 135, 3) := by decide +kernel
theorem dX8_plainFrom_56 : decode cX8_plainFrom 56 = .ok (.aload_n 3, 1) := by decide +kernel
theorem dX8_plainFrom_57 : decode cX8_plainFrom 57 = .ok (.getfield 154, 3) := by decide +kernel
theorem dX8_plainFrom_60 : decode cX8_plainFrom 60 = .ok (.iconst 0, 1) := by decide +kernel
theorem dX8_plainFrom_61 : decode cX8_plainFrom 61 = .ok (.bipush 8, 2) := by decide +kernel
theorem dX8_plainFrom_63 : decode cX8_plainFrom 63 = .ok (.invokevirtual 182, 3) := by decide +kernel
theorem dX8_plainFrom_66 : decode cX8_plainFrom 66 = .ok (.goto (-58), 3) := by decide +kernel
theorem dX8_plainFrom_69 : decode cX8_plainFrom 69 = .ok (.return_, 1) := by decide +kernel
set_option maxRecDepth 20000 in
theorem ggX8_calm_X9_init : GoodIn wsX8_calm wsX9_init := goodIn_r _ [8, 9, 10, 11, 12, 13, 14, 15, 59, 60, 61] (by decide +kernel) (by decide +kernel)
set_option maxRecDepth 20000 in
theorem gX8_calm_X9_init_n186 : GoodIn wsX8_calm (wsX9_init) := ggX8_calm_X9_init
set_option maxRecDepth 20000 in
theorem ggX8_calm_X9_hear : GoodIn wsX8_calm wsX9_hear := goodIn_r _ [19, 15, 20, 21, 22, 23, 24, 25, 26, 27, 28, 29, 30, 31, 32, 33, 34, 35, 36, 37, 38, 39, 40, 41, 42, 43, 44, 45, 46, 47, 48, 49, 50, 51, 52, 53, 3, 54, 55, 13, 56, 57, 58, 59, 60, 61] (by decide +kernel) (by decide +kernel)
set_option maxRecDepth 20000 in
theorem gX8_calm_X9_hear : GoodIn wsX8_calm (wsV RX8 187 RX9 yX9_hear wsX9_hear) := goodIn_app (goodIn_of _ (by decide +kernel)) ggX8_calm_X9_hear
theorem dX8_calm_0 : decode cX8_calm 0 = .ok (.new 83, 3) := by decide +kernel
theorem dX8_calm_3 : decode cX8_calm 3 = .ok (.dup, 1) := by decide +kernel
theorem dX8_calm_4 : decode cX8_calm 4 = .ok (.invokespecial 186, 3) := by decide +kernel
theorem dX8_calm_7 : decode cX8_calm 7 = .ok (.astore_n 1, 1) := by decide +kernel
theorem dX8_calm_8 : decode cX8_calm 8 = .ok (.iconst 0, 1) := by decide +kernel
theorem dX8_calm_9 : decode cX8_calm 9 = .ok (.istore_n 2, 1) := by decide +kernel
theorem dX8_calm_10 : decode cX8_calm 10 = .ok (.iconst 0, 1) := by decide +kernel
theorem dX8_calm_11 : decode cX8_calm 11 = .ok (.istore_n 3, 1) := by decide +kernel
theorem dX8_calm_12 : decode cX8_calm 12 = .ok (.iload_n 3, 1) := by decide +kernel
theorem dX8_calm_13 : decode cX8_calm 13 = .ok (.aload_n 0, 1) := by decide +kernel
theorem dX8_calm_14 : decode cX8_calm 14 = .ok (.getfield 42, 3) := by decide +kernel
theorem dX8_calm_17 : decode cX8_calm 17 = .ok (.if_icmp .ge 37, 3) := by decide +kernel
theorem dX8_calm_20 : decode cX8_calm 20 = .ok (.iload_n 2, 1) := by decide +kernel
theorem dX8_calm_21 : decode cX8_calm 21 = .ok (.aload_n 0, 1) := by decide +kernel
theorem dX8_calm_22 : decode cX8_calm 22 = .ok (.getfield 18, 3) := by decide +kernel
theorem dX8_calm_25 : decode cX8_calm 25 = .ok (.iload_n 3, 1) := by decide +kernel
theorem dX8_calm_26 : decode cX8_calm 26 = .ok (.iaload, 1) := by decide +kernel
theorem dX8_calm_27 : decode cX8_calm 27 = .ok (.iadd, 1) := by decide +kernel
theorem dX8_calm_28 : decode cX8_calm 28 = .ok (.istore_n 2, 1) := by decide +kernel
theorem dX8_calm_29 : decode cX8_calm 29 = .ok (.aload_n 0, 1) := by decide +kernel
theorem dX8_calm_30 : decode cX8_calm 30 = .ok (.getfield 15, 3) := by decide +kernel
theorem dX8_calm_33 : decode cX8_calm 33 = .ok (.iload_n 3, 1) := by decide +kernel
theorem dX8_calm_34 : decode cX8_calm 34 = .ok (.iaload, 1) := by decide +kernel
theorem dX8_calm_35 : decode cX8_calm 35 = .ok (.ifCond .ne 6, 3) := by decide +kernel
theorem dX8_calm_38 : decode cX8_calm 38 = .ok (.goto 10, 3) := by decide +kernel
theorem dX8_calm_41 : decode cX8_calm 41 = .ok (.aload_n 1, 1) := by decide +kernel
theorem dX8_calm_42 : decode cX8_calm 42 = .ok (.iload_n 2, 1) := by decide +kernel
theorem dX8_calm_43 : decode cX8_calm 43 = .ok (.invokevirtual 187, 3) := by decide +kernel
theorem dX8_calm_46 : decode cX8_calm 46 = .ok (.iconst 0, 1) := by decide +kernel
theorem dX8_calm_47 : decode cX8_calm 47 = .ok (.istore_n 2, 1) := by decide +kernel
theorem dX8_calm_48 : decode cX8_calm 48 = .ok (.iinc 3 1, 3) := by decide +kernel
theorem dX8_calm_51 : decode cX8_calm 51 = .ok (.goto (-39), 3) := by decide +kernel
theorem dX8_calm_54 : decode cX8_calm 54 = .ok (.aload_n 1, 1) := by decide +kernel
theorem dX8_calm_55 : decode cX8_calm 55 = .ok (.areturn, 1) := by decide +kernel
