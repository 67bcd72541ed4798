set_option maxRecDepth 20000 in
theorem ggX4_init_X3_init : GoodIn wsX4_init wsX3_init := goodIn_r _ [29, 30, 2, 3, 31, 32, 33, 34, 35, 36, 37, 38, 65, 66, 67, 68, 69, 70] (by decide +kernel) (by decide +kernel)
set_option maxRecDepth 20000 in
theorem gX4_init_X3_init_n11 : GoodIn wsX4_init (wsX3_init) := ggX4_init_X3_init
set_option maxRecDepth 20000 in
theorem ggX4_init_X2_init : GoodIn wsX4_init wsX2_init := goodIn_r _ [40, 41, 2, 3, 31, 42, 43, 44, 83, 84, 85] (by decide +kernel) (by decide +kernel)
set_option maxRecDepth 20000 in
theorem gX4_init_X2_init_n20 : GoodIn wsX4_init (wsX2_init) := ggX4_init_X2_init
set_option maxRecDepth 20000 in
theorem ggX4_init_X1_init : GoodIn wsX4_init wsX1_init := goodIn_r _ [47, 48, 2, 3, 31, 49, 50, 51, 52, 53, 54, 55, 56, 57, 86, 87, 88, 89, 90, 91, 92, 93, 94] (by decide +kernel) (by decide +kernel)
set_option maxRecDepth 20000 in
theorem gX4_init_X1_init : GoodIn wsX4_init (wsX1_init) := ggX4_init_X1_init
set_option maxRecDepth 20000 in
theorem ggX4_init_X5_init : GoodIn wsX4_init wsX5_init := goodIn_r _ [59, 60, 2, 3, 61, 9, 10, 62, 63, 64, 39, 40, 41, 31, 42, 43, 44, 83, 84, 85, 95, 96] (by decide +kernel) (by decide +kernel)
set_option maxRecDepth 20000 in
theorem gX4_init_X5_init_n41 : GoodIn wsX4_init (wsX5_init) := ggX4_init_X5_init
theorem dX4_init_0 : decode cX4_init 0 = .ok (.aload_n 0, 1) := by decide +kernel
theorem dX4_init_1 : decode cX4_init 1 = .ok (.invokespecial 3, 3) := by decide +kernel
theorem dX4_init_4 : decode cX4_init 4 = .ok (.aload_n 0, 1) := by decide +kernel
theorem dX4_init_5 : decode cX4_init 5 = .ok (.new 9, 3) := by decide +kernel
theorem dX4_init_8 : decode cX4_init 8 = .ok (.dup, 1) := by decide +kernel
theorem dX4_init_9 : decode cX4_init 9 = .ok (.invokespecial 11, 3) := by decide +kernel
theorem dX4_init_12 : decode cX4_init 12 = .ok (.putfield 12, 3) := by decide +kernel
theorem dX4_init_15 : decode cX4_init 15 = .ok (.aload_n 0, 1) := by decide +kernel
theorem dX4_init_16 : decode cX4_init 16 = .ok (.new 18, 3) := by decide +kernel
theorem dX4_init_19 : decode cX4_init 19 = .ok (.dup, 1) := by decide +kernel
theorem dX4_init_20 : decode cX4_init 20 = .ok (.invokespecial 20, 3) := by decide +kernel
theorem dX4_init_23 : decode cX4_init 23 = .ok (.putfield 21, 3) := by decide +kernel
theorem dX4_init_26 : decode cX4_init 26 = .ok (.aload_n 0, 1) := by decide +kernel
theorem dX4_init_27 : decode cX4_init 27 = .ok (.new 25, 3) := by decide +kernel
theorem dX4_init_30 : decode cX4_init 30 = .ok (.dup, 1) := by decide +kernel
theorem dX4_init_31 : decode cX4_init 31 = .ok (.iconst 1, 1) := by decide +kernel
theorem dX4_init_32 : decode cX4_init 32 = .ok (.invokespecial 29, 3) := by decide +kernel
theorem dX4_init_35 : decode cX4_init 35 = .ok (.putfield 32, 3) := by decide +kernel
theorem dX4_init_38 : decode cX4_init 38 = .ok (.aload_n 0, 1) := by decide +kernel
theorem dX4_init_39 : decode cX4_init 39 = .ok (.new 25, 3) := by decide +kernel
theorem dX4_init_42 : decode cX4_init 42 = .ok (.dup, 1) := by decide +kernel
theorem dX4_init_43 : decode cX4_init 43 = .ok (.iconst 2, 1) := by decide +kernel
theorem dX4_init_44 : decode cX4_init 44 = .ok (.invokespecial 29, 3) := by decide +kernel
theorem dX4_init_47 : decode cX4_init 47 = .ok (.putfield 36, 3) := by decide +kernel
theorem dX4_init_50 : decode cX4_init 50 = .ok (.aload_n 0, 1) := by decide +kernel
theorem dX4_init_51 : decode cX4_init 51 = .ok (.new 39, 3) := by decide +kernel
theorem dX4_init_54 : decode cX4_init 54 = .ok (.dup, 1) := by decide +kernel
theorem dX4_init_55 : decode cX4_init 55 = .ok (.invokespecial 41, 3) := by decide +kernel
theorem dX4_init_58 : decode cX4_init 58 = .ok (.putfield 42, 3) := by decide +kernel
theorem dX4_init_61 : decode cX4_init 61 = .ok (.aload_n 0, 1) := by decide +kernel
theorem dX4_init_62 : decode cX4_init 62 = .ok (.new 39, 3) := by decide +kernel
theorem dX4_init_65 : decode cX4_init 65 = .ok (.dup, 1) := by decide +kernel
theorem dX4_init_66 : decode cX4_init 66 = .ok (.invokespecial 41, 3) := by decide +kernel
theorem dX4_init_69 : decode cX4_init 69 = .ok (.putfield 46, 3) := by decide +kernel
theorem dX4_init_72 : decode cX4_init 72 = .ok (.aload_n 0, 1) := by decide +kernel
theorem dX4_init_73 : decode cX4_init 73 = .ok (.new 39, 3) := by decide +kernel
theorem dX4_init_76 : decode cX4_init 76 = .ok (.dup, 1) := by decide +kernel
theorem dX4_init_77 : decode cX4_init 77 = .ok (.invokespecial 41, 3) := by decide +kernel
theorem dX4_init_80 : decode cX4_init 80 = .ok (.putfield 49, 3) := by decide +kernel
theorem dX4_init_83 : decode cX4_init 83 = .ok (.aload_n 0, 1) := by decide +kernel
theorem dX4_init_84 : decode cX4_init 84 = .ok (.iconst 0, 1) := by decide +kernel
theorem dX4_init_85 : decode cX4_init 85 = .ok (.putfield 52, 3) := by decide +kernel
theorem dX4_init_88 : decode cX4_init 88 = .ok (.aload_n 0, 1) := by decide +kernel
theorem dX4_init_89 : decode cX4_init 89 = .ok (.iconst 0, 1) := by decide +kernel
theorem dX4_init_90 : decode cX4_init 90 = .ok (.putfield 56, 3) := by decide +kernel
theorem dX4_init_93 : decode cX4_init 93 = .ok (.aload_n 0, 1) := by decide +kernel
theorem dX4_init_94 : decode cX4_init 94 = .ok (.iconst 0, 1) := by decide +kernel
theorem dX4_init_95 : decode cX4_init 95 = .ok (.putfield 59, 3) := by decide +kernel
theorem dX4_init_98 : decode cX4_init 98 = .ok (.aload_n 0, 1) := by decide +kernel
theorem dX4_init_99 : decode cX4_init 99 = .ok (.iconst 0, 1) := by decide +kernel
theorem dX4_init_100 : decode cX4_init 100 = .ok (.putfield 62, 3) := by decide +kernel
theorem dX4_init_103 : decode cX4_init 103 = .ok (.aload_n 0, 1) := by decide +kernel
theorem dX4_init_104 : decode cX4_init 104 = .ok (.iload_n 1, 1) := by decide +kernel
theorem dX4_init_105 : decode cX4_init 105 = .ok (.putfield 65, 3) := by decide +kernel
theorem dX4_init_108 : decode cX4_init 108 = .ok (.return_, 1) := by decide +kernel
set_option maxRecDepth 20000 in
theorem ggX4_finds_X4_findsBy : GoodIn wsX4_finds wsX4_findsBy := goodIn_r _ [6, 7, 8, 9, 10, 11, 12, 13, 14, 15, 16, 17, 18, 19, 20] (by decide +kernel) (by decide +kernel)
set_option maxRecDepth 20000 in
theorem gX4_finds_X4_findsBy : GoodIn wsX4_finds (wsV RX4 68 RX4 yX4_findsBy wsX4_findsBy) := goodIn_app (goodIn_of _ (by decide +kernel)) ggX4_finds_X4_findsBy
theorem dX4_finds_0 : decode cX4_finds 0 = .ok (.aload_n 0, 1) := by decide +kernel
theorem dX4_finds_1 : decode cX4_finds 1 = .ok (.aload_n 0, 1) := by decide +kernel
theorem dX4_finds_2 : decode cX4_finds 2 = .ok (.getfield 65, 3) := by decide +kernel
theorem dX4_finds_5 : decode cX4_finds 5 = .ok (.invokevirtual 68, 3) := by decide +kernel
theorem dX4_finds_8 : decode cX4_finds 8 = .ok (.areturn, 1) := by decide +kernel
theorem dX4_findsBy_0 : decode cX4_findsBy 0 = .ok (.iload_n 1, 1) := by decide +kernel
theorem dX4_findsBy_1 : decode cX4_findsBy 1 = .ok (.iconst 2, 1) := by decide +kernel
theorem dX4_findsBy_2 : decode cX4_findsBy 2 = .ok (.if_icmp .ne 10, 3) := by decide +kernel
theorem dX4_findsBy_5 : decode cX4_findsBy 5 = .ok (.aload_n 0, 1) := by decide +kernel
theorem dX4_findsBy_6 : decode cX4_findsBy 6 = .ok (.getfield 36, 3) := by decide +kernel
theorem dX4_findsBy_9 : decode cX4_findsBy 9 = .ok (.goto 7, 3) := by decide +kernel
theorem dX4_findsBy_12 : decode cX4_findsBy 12 = .ok (.aload_n 0, 1) := by decide +kernel
theorem dX4_findsBy_13 : decode cX4_findsBy 13 = .ok (.getfield 32, 3) := by decide +kernel
theorem dX4_findsBy_16 : decode cX4_findsBy 16 = .ok (.areturn, 1) := by decide +kernel
set_option maxRecDepth 20000 in
theorem ggX4_turnAt_J9_floorMod_7cf53 : GoodIn wsX4_turnAt wsJ9_floorMod_7cf53 := goodIn_r _ [8] (by decide +kernel) (by decide +kernel)
set_option maxRecDepth 20000 in
theorem gX4_turnAt_J9_floorMod_7cf53 : GoodIn wsX4_turnAt (va_wsS RX4 72 yJ9_floorMod_7cf53 wsJ9_floorMod_7cf53) := goodIn_app (goodIn_of _ (by decide +kernel)) ggX4_turnAt_J9_floorMod_7cf53
theorem dX4_turnAt_0 : decode cX4_turnAt 0 = .ok (.aload_n 0, 1) := by decide +kernel
theorem dX4_turnAt_1 : decode cX4_turnAt 1 = .ok (.getfield 62, 3) := by decide +kernel
theorem dX4_turnAt_4 : decode cX4_turnAt 4 = .ok (.iload_n 1, 1) := by decide +kernel
theorem dX4_turnAt_5 : decode cX4_turnAt 5 = .ok (.iadd, 1) := by decide +kernel
theorem dX4_turnAt_6 : decode cX4_turnAt 6 = .ok (.iconst 3, 1) := by decide +kernel
theorem dX4_turnAt_7 : decode cX4_turnAt 7 = .ok (.invokestatic 72, 3) := by decide +kernel
theorem dX4_turnAt_10 : decode cX4_turnAt 10 = .ok (.lookupswitch 36 #[(0, 26), (1, 31)], 26) := by decide +kernel
theorem dX4_turnAt_36 : decode cX4_turnAt 36 = .ok (.aload_n 0, 1) := by decide +kernel
theorem dX4_turnAt_37 : decode cX4_turnAt 37 = .ok (.getfield 42, 3) := by decide +kernel
theorem dX4_turnAt_40 : decode cX4_turnAt 40 = .ok (.areturn, 1) := by decide +kernel
theorem dX4_turnAt_41 : decode cX4_turnAt 41 = .ok (.aload_n 0, 1) := by decide +kernel
theorem dX4_turnAt_42 : decode cX4_turnAt 42 = .ok (.getfield 46, 3) := by decide +kernel
theorem dX4_turnAt_45 : decode cX4_turnAt 45 = .ok (.areturn, 1) := by decide +kernel
theorem dX4_turnAt_46 : decode cX4_turnAt 46 = .ok (.aload_n 0, 1) := by decide +kernel
theorem dX4_turnAt_47 : decode cX4_turnAt 47 = .ok (.getfield 49, 3) := by decide +kernel
theorem dX4_turnAt_50 : decode cX4_turnAt 50 = .ok (.areturn, 1) := by decide +kernel
set_option maxRecDepth 20000 in
theorem ggX4_latestTurn_X4_turnAt : GoodIn wsX4_latestTurn wsX4_turnAt := goodIn_r _ [6, 7, 8, 9, 10, 11, 12, 13, 14, 15, 16, 17, 18, 19, 20, 21, 22, 23, 24, 25, 26] (by decide +kernel) (by decide +kernel)
set_option maxRecDepth 20000 in
theorem gX4_latestTurn_X4_turnAt : GoodIn wsX4_latestTurn (wsV RX4 78 RX4 yX4_turnAt wsX4_turnAt) := goodIn_app (goodIn_of _ (by decide +kernel)) ggX4_latestTurn_X4_turnAt
theorem dX4_latestTurn_0 : decode cX4_latestTurn 0 = .ok (.aload_n 0, 1) := by decide +kernel
theorem dX4_latestTurn_1 : decode cX4_latestTurn 1 = .ok (.aload_n 0, 1) := by decide +kernel
theorem dX4_latestTurn_2 : decode cX4_latestTurn 2 = .ok (.getfield 52, 3) := by decide +kernel
theorem dX4_latestTurn_5 : decode cX4_latestTurn 5 = .ok (.iconst 1, 1) := by decide +kernel
theorem dX4_latestTurn_6 : decode cX4_latestTurn 6 = .ok (.isub, 1) := by decide +kernel
theorem dX4_latestTurn_7 : decode cX4_latestTurn 7 = .ok (.invokevirtual 78, 3) := by decide +kernel
theorem dX4_latestTurn_10 : decode cX4_latestTurn 10 = .ok (.areturn, 1) := by decide +kernel
set_option maxRecDepth 20000 in
theorem ggX4_nextTurn_X4_latestTurn : GoodIn wsX4_nextTurn wsX4_latestTurn := goodIn_r _ [7, 1, 8, 9, 10, 6, 11, 2, 12, 13, 14, 15, 16, 17, 18, 19, 20, 21, 22, 23, 24, 25, 26, 27, 28, 29, 30] (by decide +kernel) (by decide +kernel)
set_option maxRecDepth 20000 in
theorem gX4_nextTurn_X4_latestTurn : GoodIn wsX4_nextTurn (wsV RX4 82 RX4 yX4_latestTurn wsX4_latestTurn) := goodIn_app (goodIn_of _ (by decide +kernel)) ggX4_nextTurn_X4_latestTurn
theorem dX4_nextTurn_0 : decode cX4_nextTurn 0 = .ok (.aload_n 0, 1) := by decide +kernel
theorem dX4_nextTurn_1 : decode cX4_nextTurn 1 = .ok (.getfield 52, 3) := by decide +kernel
theorem dX4_nextTurn_4 : decode cX4_nextTurn 4 = .ok (.iconst 3, 1) := by decide +kernel
theorem dX4_nextTurn_5 : decode cX4_nextTurn 5 = .ok (.if_icmp .ge 16, 3) := by decide +kernel
theorem dX4_nextTurn_8 : decode cX4_nextTurn 8 = .ok (.aload_n 0, 1) := by decide +kernel
theorem dX4_nextTurn_9 : decode cX4_nextTurn 9 = .ok (.dup, 1) := by decide +kernel
theorem dX4_nextTurn_10 : decode cX4_nextTurn 10 = .ok (.getfield 52, 3) := by decide +kernel
theorem dX4_nextTurn_13 : decode cX4_nextTurn 13 = .ok (.iconst 1, 1) := by decide +kernel
theorem dX4_nextTurn_14 : decode cX4_nextTurn 14 = .ok (.iadd, 1) := by decide +kernel
theorem dX4_nextTurn_15 : decode cX4_nextTurn 15 = .ok (.putfield 52, 3) := by decide +kernel
theorem dX4_nextTurn_18 : decode cX4_nextTurn 18 = .ok (.goto 15, 3) := by decide +kernel
theorem dX4_nextTurn_21 : decode cX4_nextTurn 21 = .ok (.aload_n 0, 1) := by decide +kernel
theorem dX4_nextTurn_22 : decode cX4_nextTurn 22 = .ok (.aload_n 0, 1) := by decide +kernel
theorem dX4_nextTurn_23 : decode cX4_nextTurn 23 = .ok (.getfield 62, 3) := by decide +kernel
theorem dX4_nextTurn_26 : decode cX4_nextTurn 26 = .ok (.iconst 1, 1) := by decide +kernel
theorem dX4_nextTurn_27 : decode cX4_nextTurn 27 = .ok (.iadd, 1) := by decide +kernel
theorem dX4_nextTurn_28 : decode cX4_nextTurn 28 = .ok (.iconst 3, 1) := by decide +kernel
theorem dX4_nextTurn_29 : decode cX4_nextTurn 29 = .ok (.irem, 1) := by decide +kernel
theorem dX4_nextTurn_30 : decode cX4_nextTurn 30 = .ok (.putfield 62, 3) := by decide +kernel
theorem dX4_nextTurn_33 : decode cX4_nextTurn 33 = .ok (.aload_n 0, 1) := by decide +kernel
theorem dX4_nextTurn_34 : decode cX4_nextTurn 34 = .ok (.invokevirtual 82, 3) := by decide +kernel
theorem dX4_nextTurn_37 : decode cX4_nextTurn 37 = .ok (.areturn, 1) := by decide +kernel
set_option maxRecDepth 20000 in
theorem ggX4_takeTurn_X4_nextTurn : GoodIn wsX4_takeTurn wsX4_nextTurn := goodIn_r _ [8, 9, 10, 11, 12, 13, 7, 14, 15, 16, 17, 18, 19, 20, 21, 22, 23, 24, 25, 106, 107, 108, 109, 110, 111, 112, 113, 114, 115, 116, 117] (by decide +kernel) (by decide +kernel)
set_option maxRecDepth 20000 in
theorem gX4_takeTurn_X4_nextTurn : GoodIn wsX4_takeTurn (wsV RX4 86 RX4 yX4_nextTurn wsX4_nextTurn) := goodIn_app (goodIn_of _ (by decide +kernel)) ggX4_takeTurn_X4_nextTurn
set_option maxRecDepth 20000 in
theorem ggX4_takeTurn_X5_begin : GoodIn wsX4_takeTurn wsX5_begin := goodIn_r _ [30, 31, 32, 33, 34, 35, 36, 37, 38, 39, 40, 124, 125, 126, 127, 128] (by decide +kernel) (by decide +kernel)
set_option maxRecDepth 20000 in
theorem gX4_takeTurn_X5_begin : GoodIn wsX4_takeTurn (wsV RX4 89 RX5 yX5_begin wsX5_begin) := goodIn_app (goodIn_of _ (by decide +kernel)) ggX4_takeTurn_X5_begin
set_option maxRecDepth 20000 in
theorem ggX4_takeTurn_X3_isPlainOne : GoodIn wsX4_takeTurn wsX3_isPlainOne := goodIn_r _ [45, 46, 47, 48, 44, 49, 50, 51, 52, 53, 54, 55, 56, 57, 58, 59, 60, 118, 119, 120, 121, 122, 123] (by decide +kernel) (by decide +kernel)
set_option maxRecDepth 20000 in
theorem gX4_takeTurn_X3_isPlainOne : GoodIn wsX4_takeTurn (wsV RX4 95 RX3 yX3_isPlainOne wsX3_isPlainOne) := goodIn_app (goodIn_of _ (by decide +kernel)) ggX4_takeTurn_X3_isPlainOne
set_option maxRecDepth 20000 in
theorem ggX4_takeTurn_X3_isDrawn : GoodIn wsX4_takeTurn wsX3_isDrawn := goodIn_r _ [64, 65, 66, 67, 44, 68, 69, 51, 52, 53, 54, 55, 56, 57, 58, 59, 60, 118, 119, 120, 121, 122, 123] (by decide +kernel) (by decide +kernel)
set_option maxRecDepth 20000 in
theorem gX4_takeTurn_X3_isDrawn : GoodIn wsX4_takeTurn (wsV RX4 99 RX3 yX3_isDrawn wsX3_isDrawn) := goodIn_app (goodIn_of _ (by decide +kernel)) ggX4_takeTurn_X3_isDrawn
set_option maxRecDepth 20000 in
theorem ggX4_takeTurn_X3_widthAt : GoodIn wsX4_takeTurn wsX3_widthAt := goodIn_r _ [73, 74, 51, 52, 53, 44, 54, 55, 118, 119, 120, 121, 122, 123] (by decide +kernel) (by decide +kernel)
set_option maxRecDepth 20000 in
theorem gX4_takeTurn_X3_widthAt : GoodIn wsX4_takeTurn (wsV RX4 102 RX3 yX3_widthAt wsX3_widthAt) := goodIn_app (goodIn_of _ (by decide +kernel)) ggX4_takeTurn_X3_widthAt
set_option maxRecDepth 20000 in
theorem ggX4_takeTurn_X5_hear : GoodIn wsX4_takeTurn wsX5_hear := goodIn_r _ [78, 33, 79, 80, 81, 82, 31, 83, 84, 85, 29, 86, 87, 88, 89, 90, 37, 91, 39, 92, 40, 93, 94, 95, 96, 97, 124, 125, 126, 127, 128] (by decide +kernel) (by decide +kernel)
set_option maxRecDepth 20000 in
theorem gX4_takeTurn_X5_hear : GoodIn wsX4_takeTurn (wsV RX4 106 RX5 yX5_hear wsX5_hear) := goodIn_app (goodIn_of _ (by decide +kernel)) ggX4_takeTurn_X5_hear
set_option maxRecDepth 20000 in
theorem ggX4_takeTurn_X3_wear : GoodIn wsX4_takeTurn wsX3_wear := goodIn_r _ [101, 56, 57, 58, 44, 59, 60, 51, 52, 53, 54, 55, 102, 103, 104, 105, 118, 119, 120, 121, 122, 123] (by decide +kernel) (by decide +kernel)
set_option maxRecDepth 20000 in
theorem gX4_takeTurn_X3_wear : GoodIn wsX4_takeTurn (wsV RX4 109 RX3 yX3_wear wsX3_wear) := goodIn_app (goodIn_of _ (by decide +kernel)) ggX4_takeTurn_X3_wear
theorem dX4_takeTurn_0 : decode cX4_takeTurn 0 = .ok (.iload_n 1, 1) := by decide +kernel
theorem dX4_takeTurn_1 : decode cX4_takeTurn 1 = .ok (.istore_n 2, 1) := by decide +kernel
theorem dX4_takeTurn_2 : decode cX4_takeTurn 2 = .ok (.iconst 0, 1) := by decide +kernel
theorem dX4_takeTurn_3 : decode cX4_takeTurn 3 = .ok (.istore_n 3, 1) := by decide +kernel
theorem dX4_takeTurn_4 : decode cX4_takeTurn 4 = .ok (.aload_n 0, 1) := by decide +kernel
theorem dX4_takeTurn_5 : decode cX4_takeTurn 5 = .ok (.invokevirtual 86, 3) := by decide +kernel
theorem dX4_takeTurn_8 : decode cX4_takeTurn 8 = .ok (.astore 4, 2) := by decide +kernel
theorem dX4_takeTurn_10 : decode cX4_takeTurn 10 = .ok (.aload 4, 2) := by decide +kernel
theorem dX4_takeTurn_12 : decode cX4_takeTurn 12 = .ok (.invokevirtual 89, 3) := by decide +kernel
theorem dX4_takeTurn_15 : decode cX4_takeTurn 15 = .ok (.iconst 0, 1) := by decide +kernel
theorem dX4_takeTurn_16 : decode cX4_takeTurn 16 = .ok (.istore 5, 2) := by decide +kernel
theorem dX4_takeTurn_18 : decode cX4_takeTurn 18 = .ok (.iload 5, 2) := by decide +kernel
theorem dX4_takeTurn_20 : decode cX4_takeTurn 20 = .ok (.aload_n 0, 1) := by decide +kernel
theorem dX4_takeTurn_21 : decode cX4_takeTurn 21 = .ok (.getfield 12, 3) := by decide +kernel
theorem dX4_takeTurn_24 : decode cX4_takeTurn 24 = .ok (.getfield 92, 3) := by decide +kernel
theorem dX4_takeTurn_27 : decode cX4_takeTurn 27 = .ok (.if_icmp .ge 89, 3) := by decide +kernel
theorem dX4_takeTurn_30 : decode cX4_takeTurn 30 = .ok (.aload_n 0, 1) := by decide +kernel
theorem dX4_takeTurn_31 : decode cX4_takeTurn 31 = .ok (.getfield 12, 3) := by decide +kernel
theorem dX4_takeTurn_34 : decode cX4_takeTurn 34 = .ok (.iload 5, 2) := by decide +kernel
theorem dX4_takeTurn_36 : decode cX4_takeTurn 36 = .ok (.invokevirtual 95, 3) := by decide +kernel
theorem dX4_takeTurn_39 : decode cX4_takeTurn 39 = .ok (.istore 6, 2) := by decide +kernel
theorem dX4_takeTurn_41 : decode cX4_takeTurn 41 = .ok (.aload_n 0, 1) := by decide +kernel
theorem dX4_takeTurn_42 : decode cX4_takeTurn 42 = .ok (.getfield 12, 3) := by decide +kernel
theorem dX4_takeTurn_45 : decode cX4_takeTurn 45 = .ok (.iload 5, 2) := by decide +kernel
theorem dX4_takeTurn_47 : decode cX4_takeTurn 47 = .ok (.invokevirtual 99, 3) := by decide +kernel
theorem dX4_takeTurn_50 : decode cX4_takeTurn 50 = .ok (.ifCond .eq 26, 3) := by decide +kernel
theorem dX4_takeTurn_53 : decode cX4_takeTurn 53 = .ok (.iconst 5, 1) := by decide +kernel
theorem dX4_takeTurn_54 : decode cX4_takeTurn 54 = .ok (.iload_n 2, 1) := by decide +kernel
theorem dX4_takeTurn_55 : decode cX4_takeTurn 55 = .ok (.imul, 1) := by decide +kernel
theorem dX4_takeTurn_56 : decode cX4_takeTurn 56 = .ok (.bipush 7, 2) := by decide +kernel
theorem dX4_takeTurn_58 : decode cX4_takeTurn 58 = .ok (.iadd, 1) := by decide +kernel
theorem dX4_takeTurn_59 : decode cX4_takeTurn 59 = .ok (.bipush 16, 2) := by decide +kernel
theorem dX4_takeTurn_61 : decode cX4_takeTurn 61 = .ok (.irem, 1) := by decide +kernel
theorem dX4_takeTurn_62 : decode cX4_takeTurn 62 = .ok (.istore_n 2, 1) := by decide +kernel
theorem dX4_takeTurn_63 : decode cX4_takeTurn 63 = .ok (.iload_n 2, 1) := by decide +kernel
theorem dX4_takeTurn_64 : decode cX4_takeTurn 64 = .ok (.bipush 7, 2) := by decide +kernel
theorem dX4_takeTurn_66 : decode cX4_takeTurn 66 = .ok (.if_icmp .le 7, 3) := by decide +kernel
theorem dX4_takeTurn_69 : decode cX4_takeTurn 69 = .ok (.iconst 1, 1) := by decide +kernel
theorem dX4_takeTurn_70 : decode cX4_takeTurn 70 = .ok (.goto 4, 3) := by decide +kernel
theorem dX4_takeTurn_73 : decode cX4_takeTurn 73 = .ok (.iconst 0, 1) := by decide +kernel
theorem dX4_takeTurn_74 : decode cX4_takeTurn 74 = .ok (.istore 6, 2) := by decide +kernel
theorem dX4_takeTurn_76 : decode cX4_takeTurn 76 = .ok (.iload_n 3, 1) := by decide +kernel
theorem dX4_takeTurn_77 : decode cX4_takeTurn 77 = .ok (.aload_n 0, 1) := by decide +kernel
theorem dX4_takeTurn_78 : decode cX4_takeTurn 78 = .ok (.getfield 12, 3) := by decide +kernel
theorem dX4_takeTurn_81 : decode cX4_takeTurn 81 = .ok (.iload 5, 2) := by decide +kernel
theorem dX4_takeTurn_83 : decode cX4_takeTurn 83 = .ok (.invokevirtual 102, 3) := by decide +kernel
theorem dX4_takeTurn_86 : decode cX4_takeTurn 86 = .ok (.iadd, 1) := by decide +kernel
theorem dX4_takeTurn_87 : decode cX4_takeTurn 87 = .ok (.istore_n 3, 1) := by decide +kernel
theorem dX4_takeTurn_88 : decode cX4_takeTurn 88 = .ok (.iload 6, 2) := by decide +kernel
theorem dX4_takeTurn_90 : decode cX4_takeTurn 90 = .ok (.ifCond .eq 11, 3) := by decide +kernel
theorem dX4_takeTurn_93 : decode cX4_takeTurn 93 = .ok (.aload 4, 2) := by decide +kernel
theorem dX4_takeTurn_95 : decode cX4_takeTurn 95 = .ok (.iload_n 3, 1) := by decide +kernel
theorem dX4_takeTurn_96 : decode cX4_takeTurn 96 = .ok (.invokevirtual 106, 3) := by decide +kernel
theorem dX4_takeTurn_99 : decode cX4_takeTurn 99 = .ok (.iconst 0, 1) := by decide +kernel
theorem dX4_takeTurn_100 : decode cX4_takeTurn 100 = .ok (.istore_n 3, 1) := by decide +kernel
theorem dX4_takeTurn_101 : decode cX4_takeTurn 101 = .ok (.aload_n 0, 1) := by decide +kernel
theorem dX4_takeTurn_102 : decode cX4_takeTurn 102 = .ok (.getfield 12, 3) := by decide +kernel
theorem dX4_takeTurn_105 : decode cX4_takeTurn 105 = .ok (.iload 5, 2) := by decide +kernel
theorem dX4_takeTurn_107 : decode cX4_takeTurn 107 = .ok (.invokevirtual 109, 3) := by decide +kernel
theorem dX4_takeTurn_110 : decode cX4_takeTurn 110 = .ok (.iinc 5 1, 3) := by decide +kernel
theorem dX4_takeTurn_113 : decode cX4_takeTurn 113 = .ok (.goto (-95), 3) := by decide +kernel
theorem dX4_takeTurn_116 : decode cX4_takeTurn 116 = .ok (.aload_n 0, 1) := by decide +kernel
theorem dX4_takeTurn_117 : decode cX4_takeTurn 117 = .ok (.dup, 1) := by decide +kernel
theorem dX4_takeTurn_118 : decode cX4_takeTurn 118 = .ok (.getfield 59, 3) := by decide +kernel
theorem dX4_takeTurn_121 : decode cX4_takeTurn 121 = .ok (.iconst 1, 1) := by decide +kernel
theorem dX4_takeTurn_122 : decode cX4_takeTurn 122 = .ok (.iadd, 1) := by decide +kernel
theorem dX4_takeTurn_123 : decode cX4_takeTurn 123 = .ok (.putfield 59, 3) := by decide +kernel
theorem dX4_takeTurn_126 : decode cX4_takeTurn 126 = .ok (.iload_n 2, 1) := by decide +kernel
theorem dX4_takeTurn_127 : decode cX4_takeTurn 127 = .ok (.ireturn, 1) := by decide +kernel
set_option maxRecDepth 20000 in
theorem ggX4_tellTogether_X4_turnAt : GoodIn wsX4_tellTogether wsX4_turnAt := goodIn_r _ [19, 20, 21, 22, 23, 24, 25, 26, 27, 112, 113, 114, 115, 116, 117, 118, 119, 120, 121, 122, 123] (by decide +kernel) (by decide +kernel)
set_option maxRecDepth 20000 in
theorem gX4_tellTogether_X4_turnAt : GoodIn wsX4_tellTogether (wsV RX4 78 RX4 yX4_turnAt wsX4_turnAt) := goodIn_app (goodIn_of _ (by decide +kernel)) ggX4_tellTogether_X4_turnAt
set_option maxRecDepth 20000 in
theorem ggX4_tellTogether_X2_empty : GoodIn wsX4_tellTogether wsX2_empty := goodIn_r _ [32, 33, 34, 126, 127, 128] (by decide +kernel) (by decide +kernel)
set_option maxRecDepth 20000 in
theorem gX4_tellTogether_X2_empty : GoodIn wsX4_tellTogether (wsV RX4 122 RX2 yX2_empty wsX2_empty) := goodIn_app (goodIn_of _ (by decide +kernel)) ggX4_tellTogether_X2_empty
set_option maxRecDepth 20000 in
theorem ggX4_tellTogether_X4_onesAt : GoodIn wsX4_tellTogether wsX4_onesAt := goodIn_r _ [38, 1, 2, 15, 16, 17, 18, 19, 20, 21, 22, 23, 24, 25, 26, 27, 39, 40, 41, 31, 42, 33, 43, 112, 113, 114, 115, 116, 117, 118, 119, 120, 121, 122, 123, 124, 125, 126, 127, 128] (by decide +kernel) (by decide +kernel)
set_option maxRecDepth 20000 in
theorem gX4_tellTogether_X4_onesAt : GoodIn wsX4_tellTogether (wsV RX4 125 RX4 yX4_onesAt wsX4_onesAt) := goodIn_app (goodIn_of _ (by decide +kernel)) ggX4_tellTogether_X4_onesAt
set_option maxRecDepth 20000 in
theorem ggX4_tellTogether_X4_latestTurn : GoodIn wsX4_tellTogether wsX4_latestTurn := goodIn_r _ [47, 1, 15, 16, 17, 18, 19, 20, 21, 22, 23, 24, 25, 26, 27, 112, 113, 114, 115, 116, 117, 118, 119, 120, 121, 122, 123] (by decide +kernel) (by decide +kernel)
set_option maxRecDepth 20000 in
theorem gX4_tellTogether_X4_latestTurn : GoodIn wsX4_tellTogether (wsV RX4 82 RX4 yX4_latestTurn wsX4_latestTurn) := goodIn_app (goodIn_of _ (by decide +kernel)) ggX4_tellTogether_X4_latestTurn
set_option maxRecDepth 20000 in
theorem ggX4_tellTogether_X2_at : GoodIn wsX4_tellTogether wsX2_at := goodIn_r _ [42, 33, 43, 126, 127, 128] (by decide +kernel) (by decide +kernel)
set_option maxRecDepth 20000 in
theorem gX4_tellTogether_X2_at : GoodIn wsX4_tellTogether (wsV RX4 128 RX2 yX2_at wsX2_at) := goodIn_app (goodIn_of _ (by decide +kernel)) ggX4_tellTogether_X2_at
set_option maxRecDepth 20000 in
theorem ggX4_tellTogether_X2_put : GoodIn wsX4_tellTogether wsX2_put := goodIn_r _ [51, 33, 43, 34, 126, 127, 128] (by decide +kernel) (by decide +kernel)
set_option maxRecDepth 20000 in
theorem gX4_tellTogether_X2_put : GoodIn wsX4_tellTogether (wsV RX4 131 RX2 yX2_put wsX2_put) := goodIn_app (goodIn_of _ (by decide +kernel)) ggX4_tellTogether_X2_put
set_option maxRecDepth 20000 in
theorem ggX4_tellTogether_X1_look : GoodIn wsX4_tellTogether wsX1_look := goodIn_r _ [56, 57, 58, 59, 60, 61, 62, 40, 41, 31, 42, 33, 43, 63, 64, 65, 55, 66, 67, 68, 69, 70, 71, 72, 73, 74, 75, 76, 77, 78, 79, 80, 81, 82, 83, 84, 85, 86, 87, 88, 89, 90, 91, 92, 93, 94, 95, 96, 97, 98, 99, 100, 101, 102, 103, 104, 105, 106, 107, 108, 109, 110, 111, 129, 130, 131, 132, 133, 134, 135, 136, 137, 126, 127, 128] (by decide +kernel) (by decide +kernel)
set_option maxRecDepth 20000 in
theorem gX4_tellTogether_X1_look : GoodIn wsX4_tellTogether (wsV RX4 134 RX1 yX1_look wsX1_look) := goodIn_app (goodIn_of _ (by decide +kernel)) ggX4_tellTogether_X1_look
theorem dX4_tellTogether_0 : decode cX4_tellTogether 0 = .ok (.aload_n 0, 1) := by decide +kernel
theorem dX4_tellTogether_1 : decode cX4_tellTogether 1 = .ok (.getfield 52, 3) := by decide +kernel
theorem dX4_tellTogether_4 : decode cX4_tellTogether 4 = .ok (.ifCond .ne 7, 3) := by decide +kernel
theorem dX4_tellTogether_7 : decode cX4_tellTogether 7 = .ok (.iconst 0, 1) := by decide +kernel
theorem dX4_tellTogether_8 : decode cX4_tellTogether 8 = .ok (.goto 6, 3) := by decide +kernel
theorem dX4_tellTogether_11 : decode cX4_tellTogether 11 = .ok (.sipush 400, 3) := by decide +kernel
theorem dX4_tellTogether_14 : decode cX4_tellTogether 14 = .ok (.istore_n 1, 1) := by decide +kernel
theorem dX4_tellTogether_15 : decode cX4_tellTogether 15 = .ok (.iconst 0, 1) := by decide +kernel
theorem dX4_tellTogether_16 : decode cX4_tellTogether 16 = .ok (.istore_n 2, 1) := by decide +kernel
theorem dX4_tellTogether_17 : decode cX4_tellTogether 17 = .ok (.iconst 0, 1) := by decide +kernel
theorem dX4_tellTogether_18 : decode cX4_tellTogether 18 = .ok (.istore_n 3, 1) := by decide +kernel
theorem dX4_tellTogether_19 : decode cX4_tellTogether 19 = .ok (.iload_n 3, 1) := by decide +kernel
theorem dX4_tellTogether_20 : decode cX4_tellTogether 20 = .ok (.aload_n 0, 1) := by decide +kernel
theorem dX4_tellTogether_21 : decode cX4_tellTogether 21 = .ok (.getfield 52, 3) := by decide +kernel
theorem dX4_tellTogether_24 : decode cX4_tellTogether 24 = .ok (.if_icmp .ge 41, 3) := by decide +kernel
theorem dX4_tellTogether_27 : decode cX4_tellTogether 27 = .ok (.iload_n 1, 1) := by decide +kernel
theorem dX4_tellTogether_28 : decode cX4_tellTogether 28 = .ok (.aload_n 0, 1) := by decide +kernel
theorem dX4_tellTogether_29 : decode cX4_tellTogether 29 = .ok (.iload_n 3, 1) := by decide +kernel
theorem dX4_tellTogether_30 : decode cX4_tellTogether 30 = .ok (.invokevirtual 78, 3) := by decide +kernel
theorem dX4_tellTogether_33 : decode cX4_tellTogether 33 = .ok (.getfield 112, 3) := by decide +kernel
theorem dX4_tellTogether_36 : decode cX4_tellTogether 36 = .ok (.getfield 115, 3) := by decide +kernel
theorem dX4_tellTogether_39 : decode cX4_tellTogether 39 = .ok (.invokestatic 116, 3) := by decide +kernel
theorem dX4_tellTogether_42 : decode cX4_tellTogether 42 = .ok (.istore_n 1, 1) := by decide +kernel
theorem dX4_tellTogether_43 : decode cX4_tellTogether 43 = .ok (.iload_n 2, 1) := by decide +kernel
theorem dX4_tellTogether_44 : decode cX4_tellTogether 44 = .ok (.aload_n 0, 1) := by decide +kernel
theorem dX4_tellTogether_45 : decode cX4_tellTogether 45 = .ok (.iload_n 3, 1) := by decide +kernel
theorem dX4_tellTogether_46 : decode cX4_tellTogether 46 = .ok (.invokevirtual 78, 3) := by decide +kernel
theorem dX4_tellTogether_49 : decode cX4_tellTogether 49 = .ok (.getfield 112, 3) := by decide +kernel
theorem dX4_tellTogether_52 : decode cX4_tellTogether 52 = .ok (.getfield 115, 3) := by decide +kernel
theorem dX4_tellTogether_55 : decode cX4_tellTogether 55 = .ok (.invokestatic 119, 3) := by decide +kernel
theorem dX4_tellTogether_58 : decode cX4_tellTogether 58 = .ok (.istore_n 2, 1) := by decide +kernel
theorem dX4_tellTogether_59 : decode cX4_tellTogether 59 = .ok (.iinc 3 1, 3) := by decide +kernel
theorem dX4_tellTogether_62 : decode cX4_tellTogether 62 = .ok (.goto (-43), 3) := by decide +kernel
theorem dX4_tellTogether_65 : decode cX4_tellTogether 65 = .ok (.aload_n 0, 1) := by decide +kernel
theorem dX4_tellTogether_66 : decode cX4_tellTogether 66 = .ok (.getfield 21, 3) := by decide +kernel
theorem dX4_tellTogether_69 : decode cX4_tellTogether 69 = .ok (.invokevirtual 122, 3) := by decide +kernel
theorem dX4_tellTogether_72 : decode cX4_tellTogether 72 = .ok (.aload_n 0, 1) := by decide +kernel
theorem dX4_tellTogether_73 : decode cX4_tellTogether 73 = .ok (.iload_n 2, 1) := by decide +kernel
theorem dX4_tellTogether_74 : decode cX4_tellTogether 74 = .ok (.iload_n 1, 1) := by decide +kernel
theorem dX4_tellTogether_75 : decode cX4_tellTogether 75 = .ok (.isub, 1) := by decide +kernel
theorem dX4_tellTogether_76 : decode cX4_tellTogether 76 = .ok (.putfield 56, 3) := by decide +kernel
theorem dX4_tellTogether_79 : decode cX4_tellTogether 79 = .ok (.iconst 0, 1) := by decide +kernel
theorem dX4_tellTogether_80 : decode cX4_tellTogether 80 = .ok (.istore_n 3, 1) := by decide +kernel
theorem dX4_tellTogether_81 : decode cX4_tellTogether 81 = .ok (.iload_n 3, 1) := by decide +kernel
theorem dX4_tellTogether_82 : decode cX4_tellTogether 82 = .ok (.iload_n 1, 1) := by decide +kernel
theorem dX4_tellTogether_83 : decode cX4_tellTogether 83 = .ok (.if_icmp .ge 95, 3) := by decide +kernel
theorem dX4_tellTogether_86 : decode cX4_tellTogether 86 = .ok (.aload_n 0, 1) := by decide +kernel
theorem dX4_tellTogether_87 : decode cX4_tellTogether 87 = .ok (.iload_n 3, 1) := by decide +kernel
theorem dX4_tellTogether_88 : decode cX4_tellTogether 88 = .ok (.invokevirtual 125, 3) := by decide +kernel
theorem dX4_tellTogether_91 : decode cX4_tellTogether 91 = .ok (.istore 4, 2) := by decide +kernel
theorem dX4_tellTogether_93 : decode cX4_tellTogether 93 = .ok (.iload 4, 2) := by decide +kernel
theorem dX4_tellTogether_95 : decode cX4_tellTogether 95 = .ok (.ifCond .eq 22, 3) := by decide +kernel
theorem dX4_tellTogether_98 : decode cX4_tellTogether 98 = .ok (.iload 4, 2) := by decide +kernel
theorem dX4_tellTogether_100 : decode cX4_tellTogether 100 = .ok (.aload_n 0, 1) := by decide +kernel
theorem dX4_tellTogether_101 : decode cX4_tellTogether 101 = .ok (.getfield 52, 3) := by decide +kernel
theorem dX4_tellTogether_104 : decode cX4_tellTogether 104 = .ok (.if_icmp .eq 13, 3) := by decide +kernel
theorem dX4_tellTogether_107 : decode cX4_tellTogether 107 = .ok (.aload_n 0, 1) := by decide +kernel
theorem dX4_tellTogether_108 : decode cX4_tellTogether 108 = .ok (.dup, 1) := by decide +kernel
theorem dX4_tellTogether_109 : decode cX4_tellTogether 109 = .ok (.getfield 56, 3) := by decide +kernel
theorem dX4_tellTogether_112 : decode cX4_tellTogether 112 = .ok (.iconst 1, 1) := by decide +kernel
theorem dX4_tellTogether_113 : decode cX4_tellTogether 113 = .ok (.iadd, 1) := by decide +kernel
theorem dX4_tellTogether_114 : decode cX4_tellTogether 114 = .ok (.putfield 56, 3) := by decide +kernel
theorem dX4_tellTogether_117 : decode cX4_tellTogether 117 = .ok (.iconst 2, 1) := by decide +kernel
theorem dX4_tellTogether_118 : decode cX4_tellTogether 118 = .ok (.iload 4, 2) := by decide +kernel
theorem dX4_tellTogether_120 : decode cX4_tellTogether 120 = .ok (.imul, 1) := by decide +kernel
theorem dX4_tellTogether_121 : decode cX4_tellTogether 121 = .ok (.aload_n 0, 1) := by decide +kernel
theorem dX4_tellTogether_122 : decode cX4_tellTogether 122 = .ok (.getfield 52, 3) := by decide +kernel
theorem dX4_tellTogether_125 : decode cX4_tellTogether 125 = .ok (.if_icmp .ne 24, 3) := by decide +kernel
theorem dX4_tellTogether_128 : decode cX4_tellTogether 128 = .ok (.aload_n 0, 1) := by decide +kernel
theorem dX4_tellTogether_129 : decode cX4_tellTogether 129 = .ok (.getfield 21, 3) := by decide +kernel
theorem dX4_tellTogether_132 : decode cX4_tellTogether 132 = .ok (.aload_n 0, 1) := by decide +kernel
theorem dX4_tellTogether_133 : decode cX4_tellTogether 133 = .ok (.invokevirtual 82, 3) := by decide +kernel
theorem dX4_tellTogether_136 : decode cX4_tellTogether 136 = .ok (.getfield 112, 3) := by decide +kernel
theorem dX4_tellTogether_139 : decode cX4_tellTogether 139 = .ok (.iload_n 3, 1) := by decide +kernel
theorem dX4_tellTogether_140 : decode cX4_tellTogether 140 = .ok (.invokevirtual 128, 3) := by decide +kernel
theorem dX4_tellTogether_143 : decode cX4_tellTogether 143 = .ok (.invokevirtual 131, 3) := by decide +kernel
theorem dX4_tellTogether_146 : decode cX4_tellTogether 146 = .ok (.goto 26, 3) := by decide +kernel
theorem dX4_tellTogether_149 : decode cX4_tellTogether 149 = .ok (.aload_n 0, 1) := by decide +kernel
theorem dX4_tellTogether_150 : decode cX4_tellTogether 150 = .ok (.getfield 21, 3) := by decide +kernel
theorem dX4_tellTogether_153 : decode cX4_tellTogether 153 = .ok (.iconst 2, 1) := by decide +kernel
theorem dX4_tellTogether_154 : decode cX4_tellTogether 154 = .ok (.iload 4, 2) := by decide +kernel
theorem dX4_tellTogether_156 : decode cX4_tellTogether 156 = .ok (.imul, 1) := by decide +kernel
theorem dX4_tellTogether_157 : decode cX4_tellTogether 157 = .ok (.aload_n 0, 1) := by decide +kernel
theorem dX4_tellTogether_158 : decode cX4_tellTogether 158 = .ok (.getfield 52, 3) := by decide +kernel
theorem dX4_tellTogether_161 : decode cX4_tellTogether 161 = .ok (.if_icmp .le 7, 3) := by decide +kernel
theorem dX4_tellTogether_164 : decode cX4_tellTogether 164 = .ok (.iconst 1, 1) := by decide +kernel
theorem dX4_tellTogether_165 : decode cX4_tellTogether 165 = .ok (.goto 4, 3) := by decide +kernel
theorem dX4_tellTogether_168 : decode cX4_tellTogether 168 = .ok (.iconst 0, 1) := by decide +kernel
theorem dX4_tellTogether_169 : decode cX4_tellTogether 169 = .ok (.invokevirtual 131, 3) := by decide +kernel
theorem dX4_tellTogether_172 : decode cX4_tellTogether 172 = .ok (.iinc 3 1, 3) := by decide +kernel
theorem dX4_tellTogether_175 : decode cX4_tellTogether 175 = .ok (.goto (-94), 3) := by decide +kernel
theorem dX4_tellTogether_178 : decode cX4_tellTogether 178 = .ok (.aload_n 0, 1) := by decide +kernel
theorem dX4_tellTogether_179 : decode cX4_tellTogether 179 = .ok (.getfield 32, 3) := by decide +kernel
theorem dX4_tellTogether_182 : decode cX4_tellTogether 182 = .ok (.aload_n 0, 1) := by decide +kernel
theorem dX4_tellTogether_183 : decode cX4_tellTogether 183 = .ok (.getfield 21, 3) := by decide +kernel
theorem dX4_tellTogether_186 : decode cX4_tellTogether 186 = .ok (.invokevirtual 134, 3) := by decide +kernel
theorem dX4_tellTogether_189 : decode cX4_tellTogether 189 = .ok (.aload_n 0, 1) := by decide +kernel
theorem dX4_tellTogether_190 : decode cX4_tellTogether 190 = .ok (.getfield 36, 3) := by decide +kernel
theorem dX4_tellTogether_193 : decode cX4_tellTogether 193 = .ok (.aload_n 0, 1) := by decide +kernel
theorem dX4_tellTogether_194 : decode cX4_tellTogether 194 = .ok (.getfield 21, 3) := by decide +kernel
theorem dX4_tellTogether_197 : decode cX4_tellTogether 197 = .ok (.invokevirtual 134, 3) := by decide +kernel
theorem dX4_tellTogether_200 : decode cX4_tellTogether 200 = .ok (.return_, 1) := by decide +kernel
set_option maxRecDepth 20000 in
theorem ggX4_onesAt_X4_turnAt : GoodIn wsX4_onesAt wsX4_turnAt := goodIn_r _ [7, 8, 9, 10, 11, 12, 13, 14, 15, 23, 24, 25, 26, 27, 28, 29, 30, 31, 32, 33, 34] (by decide +kernel) (by decide +kernel)
set_option maxRecDepth 20000 in
theorem gX4_onesAt_X4_turnAt : GoodIn wsX4_onesAt (wsV RX4 78 RX4 yX4_turnAt wsX4_turnAt) := goodIn_app (goodIn_of _ (by decide +kernel)) ggX4_onesAt_X4_turnAt
set_option maxRecDepth 20000 in
theorem ggX4_onesAt_X2_at : GoodIn wsX4_onesAt wsX2_at := goodIn_r _ [20, 21, 22, 37, 38, 39] (by decide +kernel) (by decide +kernel)
set_option maxRecDepth 20000 in
theorem gX4_onesAt_X2_at : GoodIn wsX4_onesAt (wsV RX4 128 RX2 yX2_at wsX2_at) := goodIn_app (goodIn_of _ (by decide +kernel)) ggX4_onesAt_X2_at
theorem dX4_onesAt_0 : decode cX4_onesAt 0 = .ok (.iconst 0, 1) := by decide +kernel
theorem dX4_onesAt_1 : decode cX4_onesAt 1 = .ok (.istore_n 2, 1) := by decide +kernel
theorem dX4_onesAt_2 : decode cX4_onesAt 2 = .ok (.iconst 0, 1) := by decide +kernel
theorem dX4_onesAt_3 : decode cX4_onesAt 3 = .ok (.istore_n 3, 1) := by decide +kernel
theorem dX4_onesAt_4 : decode cX4_onesAt 4 = .ok (.iload_n 3, 1) := by decide +kernel
theorem dX4_onesAt_5 : decode cX4_onesAt 5 = .ok (.aload_n 0, 1) := by decide +kernel
theorem dX4_onesAt_6 : decode cX4_onesAt 6 = .ok (.getfield 52, 3) := by decide +kernel
theorem dX4_onesAt_9 : decode cX4_onesAt 9 = .ok (.if_icmp .ge 24, 3) := by decide +kernel
theorem dX4_onesAt_12 : decode cX4_onesAt 12 = .ok (.iload_n 2, 1) := by decide +kernel
theorem dX4_onesAt_13 : decode cX4_onesAt 13 = .ok (.aload_n 0, 1) := by decide +kernel
theorem dX4_onesAt_14 : decode cX4_onesAt 14 = .ok (.iload_n 3, 1) := by decide +kernel
theorem dX4_onesAt_15 : decode cX4_onesAt 15 = .ok (.invokevirtual 78, 3) := by decide +kernel
theorem dX4_onesAt_18 : decode cX4_onesAt 18 = .ok (.getfield 112, 3) := by decide +kernel
theorem dX4_onesAt_21 : decode cX4_onesAt 21 = .ok (.iload_n 1, 1) := by decide +kernel
theorem dX4_onesAt_22 : decode cX4_onesAt 22 = .ok (.invokevirtual 128, 3) := by decide +kernel
theorem dX4_onesAt_25 : decode cX4_onesAt 25 = .ok (.iadd, 1) := by decide +kernel
theorem dX4_onesAt_26 : decode cX4_onesAt 26 = .ok (.istore_n 2, 1) := by decide +kernel
theorem dX4_onesAt_27 : decode cX4_onesAt 27 = .ok (.iinc 3 1, 3) := by decide +kernel
theorem dX4_onesAt_30 : decode cX4_onesAt 30 = .ok (.goto (-26), 3) := by decide +kernel
theorem dX4_onesAt_33 : decode cX4_onesAt 33 = .ok (.iload_n 2, 1) := by decide +kernel
theorem dX4_onesAt_34 : decode cX4_onesAt 34 = .ok (.ireturn, 1) := by decide +kernel
set_option maxRecDepth 20000 in
theorem ggX4_guards_X4_finds : GoodIn wsX4_guards wsX4_finds := goodIn_r _ [12, 13, 14, 15, 16, 11, 17, 18, 19, 40, 41, 42, 43, 44, 45, 46, 47, 48, 49, 50, 51] (by decide +kernel) (by decide +kernel)
set_option maxRecDepth 20000 in
theorem gX4_guards_X4_finds : GoodIn wsX4_guards (wsV RX4 138 RX4 yX4_finds wsX4_finds) := goodIn_app (goodIn_of _ (by decide +kernel)) ggX4_guards_X4_finds
set_option maxRecDepth 20000 in
theorem ggX4_guards_X1_hasTwins : GoodIn wsX4_guards wsX1_hasTwins := goodIn_r _ [24, 25, 26, 27, 28, 23, 29, 30, 31, 32, 33, 34, 35, 36, 37, 38, 39] (by decide +kernel) (by decide +kernel)
set_option maxRecDepth 20000 in
theorem gX4_guards_X1_hasTwins : GoodIn wsX4_guards (wsV RX4 148 RX1 yX1_hasTwins wsX1_hasTwins) := goodIn_app (goodIn_of _ (by decide +kernel)) ggX4_guards_X1_hasTwins
theorem dX4_guards_0 : decode cX4_guards 0 = .ok (.aload_n 0, 1) := by decide +kernel
theorem dX4_guards_1 : decode cX4_guards 1 = .ok (.invokevirtual 138, 3) := by decide +kernel
theorem dX4_guards_4 : decode cX4_guards 4 = .ok (.astore_n 1, 1) := by decide +kernel
theorem dX4_guards_5 : decode cX4_guards 5 = .ok (.aload_n 1, 1) := by decide +kernel
theorem dX4_guards_6 : decode cX4_guards 6 = .ok (.getfield 142, 3) := by decide +kernel
theorem dX4_guards_9 : decode cX4_guards 9 = .ok (.aload_n 1, 1) := by decide +kernel
theorem dX4_guards_10 : decode cX4_guards 10 = .ok (.getfield 145, 3) := by decide +kernel
theorem dX4_guards_13 : decode cX4_guards 13 = .ok (.if_icmp .ge 7, 3) := by decide +kernel
theorem dX4_guards_16 : decode cX4_guards 16 = .ok (.iconst 1, 1) := by decide +kernel
theorem dX4_guards_17 : decode cX4_guards 17 = .ok (.goto 4, 3) := by decide +kernel
theorem dX4_guards_20 : decode cX4_guards 20 = .ok (.iconst 0, 1) := by decide +kernel
theorem dX4_guards_21 : decode cX4_guards 21 = .ok (.istore_n 2, 1) := by decide +kernel
theorem dX4_guards_22 : decode cX4_guards 22 = .ok (.iload_n 2, 1) := by decide +kernel
theorem dX4_guards_23 : decode cX4_guards 23 = .ok (.aload_n 1, 1) := by decide +kernel
theorem dX4_guards_24 : decode cX4_guards 24 = .ok (.invokevirtual 148, 3) := by decide +kernel
theorem dX4_guards_27 : decode cX4_guards 27 = .ok (.ifCond .eq 7, 3) := by decide +kernel
theorem dX4_guards_30 : decode cX4_guards 30 = .ok (.iconst 2, 1) := by decide +kernel
theorem dX4_guards_31 : decode cX4_guards 31 = .ok (.goto 4, 3) := by decide +kernel
theorem dX4_guards_34 : decode cX4_guards 34 = .ok (.iconst 0, 1) := by decide +kernel
theorem dX4_guards_35 : decode cX4_guards 35 = .ok (.ior, 1) := by decide +kernel
theorem dX4_guards_36 : decode cX4_guards 36 = .ok (.istore_n 2, 1) := by decide +kernel
theorem dX4_guards_37 : decode cX4_guards 37 = .ok (.iload_n 2, 1) := by decide +kernel
theorem dX4_guards_38 : decode cX4_guards 38 = .ok (.aload_n 0, 1) := by decide +kernel
theorem dX4_guards_39 : decode cX4_guards 39 = .ok (.getfield 56, 3) := by decide +kernel
theorem dX4_guards_42 : decode cX4_guards 42 = .ok (.ifCond .le 7, 3) := by decide +kernel
theorem dX4_guards_45 : decode cX4_guards 45 = .ok (.iconst 4, 1) := by decide +kernel
theorem dX4_guards_46 : decode cX4_guards 46 = .ok (.goto 4, 3) := by decide +kernel
theorem dX4_guards_49 : decode cX4_guards 49 = .ok (.iconst 0, 1) := by decide +kernel
theorem dX4_guards_50 : decode cX4_guards 50 = .ok (.ior, 1) := by decide +kernel
theorem dX4_guards_51 : decode cX4_guards 51 = .ok (.istore_n 2, 1) := by decide +kernel
theorem dX4_guards_52 : decode cX4_guards 52 = .ok (.iload_n 2, 1) := by decide +kernel
theorem dX4_guards_53 : decode cX4_guards 53 = .ok (.aload_n 1, 1) := by decide +kernel
theorem dX4_guards_54 : decode cX4_guards 54 = .ok (.getfield 152, 3) := by decide +kernel
theorem dX4_guards_57 : decode cX4_guards 57 = .ok (.ifCond .le 8, 3) := by decide +kernel
theorem dX4_guards_60 : decode cX4_guards 60 = .ok (.bipush 8, 2) := by decide +kernel
theorem dX4_guards_62 : decode cX4_guards 62 = .ok (.goto 4, 3) := by decide +kernel
theorem dX4_guards_65 : decode cX4_guards 65 = .ok (.iconst 0, 1) := by decide +kernel
theorem dX4_guards_66 : decode cX4_guards 66 = .ok (.ior, 1) := by decide +kernel
theorem dX4_guards_67 : decode cX4_guards 67 = .ok (.istore_n 2, 1) := by decide +kernel
theorem dX4_guards_68 : decode cX4_guards 68 = .ok (.iload_n 2, 1) := by decide +kernel
theorem dX4_guards_69 : decode cX4_guards 69 = .ok (.aload_n 1, 1) := by decide +kernel
theorem dX4_guards_70 : decode cX4_guards 70 = .ok (.getfield 155, 3) := by decide +kernel
theorem dX4_guards_73 : decode cX4_guards 73 = .ok (.ifCond .eq 8, 3) := by decide +kernel
theorem dX4_guards_76 : decode cX4_guards 76 = .ok (.bipush 16, 2) := by decide +kernel
theorem dX4_guards_78 : decode cX4_guards 78 = .ok (.goto 4, 3) := by decide +kernel
theorem dX4_guards_81 : decode cX4_guards 81 = .ok (.iconst 0, 1) := by decide +kernel
theorem dX4_guards_82 : decode cX4_guards 82 = .ok (.ior, 1) := by decide +kernel
theorem dX4_guards_83 : decode cX4_guards 83 = .ok (.istore_n 2, 1) := by decide +kernel
theorem dX4_guards_84 : decode cX4_guards 84 = .ok (.iload_n 2, 1) := by decide +kernel
theorem dX4_guards_85 : decode cX4_guards 85 = .ok (.aload_n 0, 1) := by decide +kernel
theorem dX4_guards_86 : decode cX4_guards 86 = .ok (.getfield 21, 3) := by decide +kernel
theorem dX4_guards_89 : decode cX4_guards 89 = .ok (.getfield 115, 3) := by decide +kernel
theorem dX4_guards_92 : decode cX4_guards 92 = .ok (.sipush 300, 3) := by decide +kernel
theorem dX4_guards_95 : decode cX4_guards 95 = .ok (.if_icmp .le 8, 3) := by decide +kernel
theorem dX4_guards_98 : decode cX4_guards 98 = .ok (.bipush 32, 2) := by decide +kernel
theorem dX4_guards_100 : decode cX4_guards 100 = .ok (.goto 4, 3) := by decide +kernel
theorem dX4_guards_103 : decode cX4_guards 103 = .ok (.iconst 0, 1) := by decide +kernel
theorem dX4_guards_104 : decode cX4_guards 104 = .ok (.ior, 1) := by decide +kernel
theorem dX4_guards_105 : decode cX4_guards 105 = .ok (.istore_n 2, 1) := by decide +kernel
theorem dX4_guards_106 : decode cX4_guards 106 = .ok (.iload_n 2, 1) := by decide +kernel
theorem dX4_guards_107 : decode cX4_guards 107 = .ok (.ireturn, 1) := by decide +kernel
set_option maxRecDepth 20000 in
theorem ggX4_becomeEmpty_X3_empty : GoodIn wsX4_becomeEmpty wsX3_empty := goodIn_r _ [9, 10, 11, 24, 25, 26, 27, 28, 29] (by decide +kernel) (by decide +kernel)
set_option maxRecDepth 20000 in
theorem gX4_becomeEmpty_X3_empty : GoodIn wsX4_becomeEmpty (wsV RX4 159 RX3 yX3_empty wsX3_empty) := goodIn_app (goodIn_of _ (by decide +kernel)) ggX4_becomeEmpty_X3_empty
theorem dX4_becomeEmpty_0 : decode cX4_becomeEmpty 0 = .ok (.aload_n 0, 1) := by decide +kernel
theorem dX4_becomeEmpty_1 : decode cX4_becomeEmpty 1 = .ok (.iload_n 1, 1) := by decide +kernel
theorem dX4_becomeEmpty_2 : decode cX4_becomeEmpty 2 = .ok (.putfield 65, 3) := by decide +kernel
theorem dX4_becomeEmpty_5 : decode cX4_becomeEmpty 5 = .ok (.aload_n 0, 1) := by decide +kernel
theorem dX4_becomeEmpty_6 : decode cX4_becomeEmpty 6 = .ok (.getfield 12, 3) := by decide +kernel
theorem dX4_becomeEmpty_9 : decode cX4_becomeEmpty 9 = .ok (.invokevirtual 159, 3) := by decide +kernel
theorem dX4_becomeEmpty_12 : decode cX4_becomeEmpty 12 = .ok (.aload_n 0, 1) := by decide +kernel
theorem dX4_becomeEmpty_13 : decode cX4_becomeEmpty 13 = .ok (.iconst 0, 1) := by decide +kernel
theorem dX4_becomeEmpty_14 : decode cX4_becomeEmpty 14 = .ok (.putfield 52, 3) := by decide +kernel
theorem dX4_becomeEmpty_17 : decode cX4_becomeEmpty 17 = .ok (.aload_n 0, 1) := by decide +kernel
theorem dX4_becomeEmpty_18 : decode cX4_becomeEmpty 18 = .ok (.iconst 0, 1) := by decide +kernel
theorem dX4_becomeEmpty_19 : decode cX4_becomeEmpty 19 = .ok (.putfield 62, 3) := by decide +kernel
theorem dX4_becomeEmpty_22 : decode cX4_becomeEmpty 22 = .ok (.return_, 1) := by decide +kernel
set_option maxRecDepth 20000 in
theorem ggX4_putRawCopy_X2_at : GoodIn wsX4_putRawCopy wsX2_at := goodIn_r _ [7, 8, 9, 20, 21, 22] (by decide +kernel) (by decide +kernel)
set_option maxRecDepth 20000 in
theorem gX4_putRawCopy_X2_at : GoodIn wsX4_putRawCopy (wsV RX4 128 RX2 yX2_at wsX2_at) := goodIn_app (goodIn_of _ (by decide +kernel)) ggX4_putRawCopy_X2_at
set_option maxRecDepth 20000 in
theorem ggX4_putRawCopy_X3_put : GoodIn wsX4_putRawCopy wsX3_put := goodIn_r _ [14, 15, 16, 17, 18, 19, 35, 36, 37, 38, 39, 40] (by decide +kernel) (by decide +kernel)
set_option maxRecDepth 20000 in
theorem gX4_putRawCopy_X3_put : GoodIn wsX4_putRawCopy (wsV RX4 160 RX3 yX3_put wsX3_put) := goodIn_app (goodIn_of _ (by decide +kernel)) ggX4_putRawCopy_X3_put
theorem dX4_putRawCopy_0 : decode cX4_putRawCopy 0 = .ok (.iconst 0, 1) := by decide +kernel
theorem dX4_putRawCopy_1 : decode cX4_putRawCopy 1 = .ok (.istore_n 2, 1) := by decide +kernel
theorem dX4_putRawCopy_2 : decode cX4_putRawCopy 2 = .ok (.iload_n 2, 1) := by decide +kernel
theorem dX4_putRawCopy_3 : decode cX4_putRawCopy 3 = .ok (.aload_n 1, 1) := by decide +kernel
theorem dX4_putRawCopy_4 : decode cX4_putRawCopy 4 = .ok (.getfield 115, 3) := by decide +kernel
theorem dX4_putRawCopy_7 : decode cX4_putRawCopy 7 = .ok (.if_icmp .ge 23, 3) := by decide +kernel
theorem dX4_putRawCopy_10 : decode cX4_putRawCopy 10 = .ok (.aload_n 0, 1) := by decide +kernel
theorem dX4_putRawCopy_11 : decode cX4_putRawCopy 11 = .ok (.getfield 12, 3) := by decide +kernel
theorem dX4_putRawCopy_14 : decode cX4_putRawCopy 14 = .ok (.aload_n 1, 1) := by decide +kernel
theorem dX4_putRawCopy_15 : decode cX4_putRawCopy 15 = .ok (.iload_n 2, 1) := by decide +kernel
theorem dX4_putRawCopy_16 : decode cX4_putRawCopy 16 = .ok (.invokevirtual 128, 3) := by decide +kernel
theorem dX4_putRawCopy_19 : decode cX4_putRawCopy 19 = .ok (.bipush 8, 2) := by decide +kernel
theorem dX4_putRawCopy_21 : decode cX4_putRawCopy 21 = .ok (.invokevirtual 160, 3) := by decide +kernel
theorem dX4_putRawCopy_24 : decode cX4_putRawCopy 24 = .ok (.iinc 2 1, 3) := by decide +kernel
theorem dX4_putRawCopy_27 : decode cX4_putRawCopy 27 = .ok (.goto (-25), 3) := by decide +kernel
theorem dX4_putRawCopy_30 : decode cX4_putRawCopy 30 = .ok (.return_, 1) := by decide +kernel
set_option maxRecDepth 20000 in
theorem ggX4_putPlainCopy_X1_plainSector : GoodIn wsX4_putPlainCopy wsX1_plainSector := goodIn_r _ [8, 9, 10, 53, 54, 55, 56, 57, 58, 59, 60, 61] (by decide +kernel) (by decide +kernel)
set_option maxRecDepth 20000 in
theorem gX4_putPlainCopy_X1_plainSector : GoodIn wsX4_putPlainCopy (wsV RX4 166 RX1 yX1_plainSector wsX1_plainSector) := goodIn_app (goodIn_of _ (by decide +kernel)) ggX4_putPlainCopy_X1_plainSector
set_option maxRecDepth 20000 in
theorem ggX4_putPlainCopy_X1_valueOf : GoodIn wsX4_putPlainCopy wsX1_valueOf := goodIn_r _ [14, 15, 53, 54, 55, 56, 57, 58, 59, 60, 61] (by decide +kernel) (by decide +kernel)
set_option maxRecDepth 20000 in
theorem gX4_putPlainCopy_X1_valueOf : GoodIn wsX4_putPlainCopy (wsV RX4 169 RX1 yX1_valueOf wsX1_valueOf) := goodIn_app (goodIn_of _ (by decide +kernel)) ggX4_putPlainCopy_X1_valueOf
set_option maxRecDepth 20000 in
theorem ggX4_putPlainCopy_X1_dataOf : GoodIn wsX4_putPlainCopy wsX1_dataOf := goodIn_r _ [19, 20, 12, 13, 7, 14, 15, 53, 54, 55, 56, 57, 58, 59, 60, 61] (by decide +kernel) (by decide +kernel)
set_option maxRecDepth 20000 in
theorem gX4_putPlainCopy_X1_dataOf : GoodIn wsX4_putPlainCopy (wsV RX4 172 RX1 yX1_dataOf wsX1_dataOf) := goodIn_app (goodIn_of _ (by decide +kernel)) ggX4_putPlainCopy_X1_dataOf
set_option maxRecDepth 20000 in
theorem ggX4_putPlainCopy_X3_putSector : GoodIn wsX4_putPlainCopy wsX3_putSector := goodIn_r _ [25, 26, 27, 28, 24, 29, 30, 31, 32, 33, 34, 35, 36, 37, 38, 39, 40, 41, 42, 43, 44, 45, 46, 47, 48, 49, 50, 51, 52, 74, 75, 76, 77, 78, 79] (by decide +kernel) (by decide +kernel)
set_option maxRecDepth 20000 in
theorem gX4_putPlainCopy_X3_putSector : GoodIn wsX4_putPlainCopy (wsV RX4 175 RX3 yX3_putSector wsX3_putSector) := goodIn_app (goodIn_of _ (by decide +kernel)) ggX4_putPlainCopy_X3_putSector
theorem dX4_putPlainCopy_0 : decode cX4_putPlainCopy 0 = .ok (.iconst 0, 1) := by decide +kernel
theorem dX4_putPlainCopy_1 : decode cX4_putPlainCopy 1 = .ok (.istore_n 2, 1) := by decide +kernel
theorem dX4_putPlainCopy_2 : decode cX4_putPlainCopy 2 = .ok (.iload_n 2, 1) := by decide +kernel
theorem dX4_putPlainCopy_3 : decode cX4_putPlainCopy 3 = .ok (.aload_n 1, 1) := by decide +kernel
theorem dX4_putPlainCopy_4 : decode cX4_putPlainCopy 4 = .ok (.getfield 163, 3) := by decide +kernel
theorem dX4_putPlainCopy_7 : decode cX4_putPlainCopy 7 = .ok (.if_icmp .ge 54, 3) := by decide +kernel
theorem dX4_putPlainCopy_10 : decode cX4_putPlainCopy 10 = .ok (.aload_n 1, 1) := by decide +kernel
theorem dX4_putPlainCopy_11 : decode cX4_putPlainCopy 11 = .ok (.iload_n 2, 1) := by decide +kernel
theorem dX4_putPlainCopy_12 : decode cX4_putPlainCopy 12 = .ok (.invokevirtual 166, 3) := by decide +kernel
theorem dX4_putPlainCopy_15 : decode cX4_putPlainCopy 15 = .ok (.istore_n 3, 1) := by decide +kernel
theorem dX4_putPlainCopy_16 : decode cX4_putPlainCopy 16 = .ok (.aload_n 1, 1) := by decide +kernel
theorem dX4_putPlainCopy_17 : decode cX4_putPlainCopy 17 = .ok (.iload_n 3, 1) := by decide +kernel
theorem dX4_putPlainCopy_18 : decode cX4_putPlainCopy 18 = .ok (.iconst 1, 1) := by decide +kernel
theorem dX4_putPlainCopy_19 : decode cX4_putPlainCopy 19 = .ok (.invokevirtual 169, 3) := by decide +kernel
theorem dX4_putPlainCopy_22 : decode cX4_putPlainCopy 22 = .ok (.istore 4, 2) := by decide +kernel
theorem dX4_putPlainCopy_24 : decode cX4_putPlainCopy 24 = .ok (.aload_n 1, 1) := by decide +kernel
theorem dX4_putPlainCopy_25 : decode cX4_putPlainCopy 25 = .ok (.iload_n 3, 1) := by decide +kernel
theorem dX4_putPlainCopy_26 : decode cX4_putPlainCopy 26 = .ok (.iconst 2, 1) := by decide +kernel
theorem dX4_putPlainCopy_27 : decode cX4_putPlainCopy 27 = .ok (.invokevirtual 169, 3) := by decide +kernel
theorem dX4_putPlainCopy_30 : decode cX4_putPlainCopy 30 = .ok (.istore 5, 2) := by decide +kernel
theorem dX4_putPlainCopy_32 : decode cX4_putPlainCopy 32 = .ok (.aload_n 0, 1) := by decide +kernel
theorem dX4_putPlainCopy_33 : decode cX4_putPlainCopy 33 = .ok (.getfield 12, 3) := by decide +kernel
theorem dX4_putPlainCopy_36 : decode cX4_putPlainCopy 36 = .ok (.aload_n 0, 1) := by decide +kernel
theorem dX4_putPlainCopy_37 : decode cX4_putPlainCopy 37 = .ok (.getfield 65, 3) := by decide +kernel
theorem dX4_putPlainCopy_40 : decode cX4_putPlainCopy 40 = .ok (.iload 4, 2) := by decide +kernel
theorem dX4_putPlainCopy_42 : decode cX4_putPlainCopy 42 = .ok (.iload 5, 2) := by decide +kernel
theorem dX4_putPlainCopy_44 : decode cX4_putPlainCopy 44 = .ok (.aload_n 1, 1) := by decide +kernel
theorem dX4_putPlainCopy_45 : decode cX4_putPlainCopy 45 = .ok (.iload_n 3, 1) := by decide +kernel
theorem dX4_putPlainCopy_46 : decode cX4_putPlainCopy 46 = .ok (.invokevirtual 172, 3) := by decide +kernel
theorem dX4_putPlainCopy_49 : decode cX4_putPlainCopy 49 = .ok (.iconst 1, 1) := by decide +kernel
theorem dX4_putPlainCopy_50 : decode cX4_putPlainCopy 50 = .ok (.bipush 8, 2) := by decide +kernel
theorem dX4_putPlainCopy_52 : decode cX4_putPlainCopy 52 = .ok (.invokevirtual 175, 3) := by decide +kernel
theorem dX4_putPlainCopy_55 : decode cX4_putPlainCopy 55 = .ok (.iinc 2 1, 3) := by decide +kernel
theorem dX4_putPlainCopy_58 : decode cX4_putPlainCopy 58 = .ok (.goto (-56), 3) := by decide +kernel
theorem dX4_putPlainCopy_61 : decode cX4_putPlainCopy 61 = .ok (.return_, 1) := by decide +kernel
