set_option maxRecDepth 20000 in
theorem gX10_turn_X10_refuse : GoodIn wsX10_turn (wsV RX10 31 RX10 yX10_refuse wsX10_refuse) := goodIn_app (goodIn_of _ (by decide +kernel)) ggX10_turn_X10_refuse
theorem dX10_turn_0 : decode cX10_turn 0 = .ok (.aload_n 0, 1) := by decide +kernel
theorem dX10_turn_1 : decode cX10_turn 1 = .ok (.iconst 0, 1) := by decide +kernel
theorem dX10_turn_2 : decode cX10_turn 2 = .ok (.putfield 20, 3) := by decide +kernel
theorem dX10_turn_5 : decode cX10_turn 5 = .ok (.aload_n 0, 1) := by decide +kernel
theorem dX10_turn_6 : decode cX10_turn 6 = .ok (.iload_n 1, 1) := by decide +kernel
theorem dX10_turn_7 : decode cX10_turn 7 = .ok (.iload_n 2, 1) := by decide +kernel
theorem dX10_turn_8 : decode cX10_turn 8 = .ok (.invokevirtual 188, 3) := by decide +kernel
theorem dX10_turn_11 : decode cX10_turn 11 = .ok (.ifCond .eq 31, 3) := by decide +kernel
theorem dX10_turn_42 : decode cX10_turn 42 = .ok (.aload_n 0, 1) := by decide +kernel
theorem dX10_turn_43 : decode cX10_turn 43 = .ok (.iconst 1, 1) := by decide +kernel
theorem dX10_turn_44 : decode cX10_turn 44 = .ok (.invokevirtual 31, 3) := by decide +kernel
theorem dX10_turn_47 : decode cX10_turn 47 = .ok (.ireturn, 1) := by decide +kernel
set_option maxRecDepth 20000 in
theorem ggX10_period_X10_isTurn : GoodIn wsX10_period wsX10_isTurn := goodIn_r _ [9, 2, 3, 10, 11, 12, 8, 13, 14, 15, 16, 17, 18, 19, 20, 21, 22, 23, 24, 25, 26, 27, 28, 29, 30, 31, 32, 33, 34, 35, 36, 37, 38, 39, 40, 41, 42, 43, 44, 45, 46, 47, 48, 49, 50, 51, 52, 53, 54, 55, 56, 57, 58, 62, 63, 64] (by decide +kernel) (by decide +kernel)
set_option maxRecDepth 20000 in
theorem gX10_period_X10_isTurn : GoodIn wsX10_period (wsV RX10 188 RX10 yX10_isTurn wsX10_isTurn) := goodIn_app (goodIn_of _ (by decide +kernel)) ggX10_period_X10_isTurn
theorem dX10_period_0 : decode cX10_period 0 = .ok (.aload_n 0, 1) := by decide +kernel
theorem dX10_period_1 : decode cX10_period 1 = .ok (.aload_n 0, 1) := by decide +kernel
theorem dX10_period_2 : decode cX10_period 2 = .ok (.iload_n 1, 1) := by decide +kernel
theorem dX10_period_3 : decode cX10_period 3 = .ok (.iload_n 2, 1) := by decide +kernel
theorem dX10_period_4 : decode cX10_period 4 = .ok (.invokevirtual 188, 3) := by decide +kernel
theorem dX10_period_7 : decode cX10_period 7 = .ok (.ifCond .eq 7, 3) := by decide +kernel
theorem dX10_period_14 : decode cX10_period 14 = .ok (.iconst 1, 1) := by decide +kernel
theorem dX10_period_15 : decode cX10_period 15 = .ok (.putfield 20, 3) := by decide +kernel
theorem dX10_period_18 : decode cX10_period 18 = .ok (.aload_n 0, 1) := by decide +kernel
theorem dX10_period_19 : decode cX10_period 19 = .ok (.getfield 20, 3) := by decide +kernel
theorem dX10_period_22 : decode cX10_period 22 = .ok (.ifCond .le 7, 3) := by decide +kernel
theorem dX10_period_25 : decode cX10_period 25 = .ok (.dconst 0, 1) := by decide +kernel
theorem dX10_period_26 : decode cX10_period 26 = .ok (.goto 27, 3) := by decide +kernel
theorem dX10_period_53 : decode cX10_period 53 = .ok (.dreturn, 1) := by decide +kernel
set_option maxRecDepth 20000 in
theorem ggX10_ofSector_X10_isTrack : GoodIn wsX10_ofSector wsX10_isTrack := goodIn_r _ [9, 2, 10, 11, 12, 13, 14, 15, 16, 17, 8, 18, 211, 212, 213, 214, 215, 216, 217, 218, 219, 220, 221] (by decide +kernel) (by decide +kernel)
set_option maxRecDepth 20000 in
theorem gX10_ofSector_X10_isTrack : GoodIn wsX10_ofSector (wsV RX10 44 RX10 yX10_isTrack wsX10_isTrack) := goodIn_app (goodIn_of _ (by decide +kernel)) ggX10_ofSector_X10_isTrack
set_option maxRecDepth 20000 in
theorem ggX10_ofSector_X10_refuse : GoodIn wsX10_ofSector wsX10_refuse := goodIn_r _ [22, 1, 211, 212, 213, 214, 215, 216, 217, 218] (by decide +kernel) (by decide +kernel)
set_option maxRecDepth 20000 in
theorem gX10_ofSector_X10_refuse : GoodIn wsX10_ofSector (wsV RX10 31 RX10 yX10_refuse wsX10_refuse) := goodIn_app (goodIn_of _ (by decide +kernel)) ggX10_ofSector_X10_refuse
theorem dX10_ofSector_0 : decode cX10_ofSector 0 = .ok (.aload_n 0, 1) := by decide +kernel
theorem dX10_ofSector_1 : decode cX10_ofSector 1 = .ok (.iconst 0, 1) := by decide +kernel
theorem dX10_ofSector_2 : decode cX10_ofSector 2 = .ok (.putfield 20, 3) := by decide +kernel
theorem dX10_ofSector_5 : decode cX10_ofSector 5 = .ok (.aload_n 0, 1) := by decide +kernel
theorem dX10_ofSector_6 : decode cX10_ofSector 6 = .ok (.iload_n 1, 1) := by decide +kernel
theorem dX10_ofSector_7 : decode cX10_ofSector 7 = .ok (.invokevirtual 44, 3) := by decide +kernel
theorem dX10_ofSector_10 : decode cX10_ofSector 10 = .ok (.ifCond .ne 9, 3) := by decide +kernel
theorem dX10_ofSector_13 : decode cX10_ofSector 13 = .ok (.aload_n 0, 1) := by decide +kernel
theorem dX10_ofSector_14 : decode cX10_ofSector 14 = .ok (.iconst 1, 1) := by decide +kernel
theorem dX10_ofSector_15 : decode cX10_ofSector 15 = .ok (.invokevirtual 31, 3) := by decide +kernel
theorem dX10_ofSector_18 : decode cX10_ofSector 18 = .ok (.ireturn, 1) := by decide +kernel
set_option maxRecDepth 20000 in
theorem ggX10_chain_X10_isTrack : GoodIn wsX10_chain wsX10_isTrack := goodIn_r _ [8, 2, 9, 10, 11, 12, 13, 14, 15, 16, 7, 17, 208, 209, 210, 211, 212, 213, 214, 215, 223, 224, 225] (by decide +kernel) (by decide +kernel)
set_option maxRecDepth 20000 in
theorem gX10_chain_X10_isTrack : GoodIn wsX10_chain (wsV RX10 44 RX10 yX10_isTrack wsX10_isTrack) := goodIn_app (goodIn_of _ (by decide +kernel)) ggX10_chain_X10_isTrack
set_option maxRecDepth 20000 in
theorem ggX10_chain_X10_refuse : GoodIn wsX10_chain wsX10_refuse := goodIn_r _ [21, 1, 208, 209, 210, 211, 212, 213, 214, 215] (by decide +kernel) (by decide +kernel)
set_option maxRecDepth 20000 in
theorem gX10_chain_X10_refuse : GoodIn wsX10_chain (wsV RX10 31 RX10 yX10_refuse wsX10_refuse) := goodIn_app (goodIn_of _ (by decide +kernel)) ggX10_chain_X10_refuse
theorem dX10_chain_0 : decode cX10_chain 0 = .ok (.aload_n 0, 1) := by decide +kernel
theorem dX10_chain_1 : decode cX10_chain 1 = .ok (.iconst 0, 1) := by decide +kernel
theorem dX10_chain_2 : decode cX10_chain 2 = .ok (.putfield 20, 3) := by decide +kernel
theorem dX10_chain_5 : decode cX10_chain 5 = .ok (.aload_n 0, 1) := by decide +kernel
theorem dX10_chain_6 : decode cX10_chain 6 = .ok (.iload_n 1, 1) := by decide +kernel
theorem dX10_chain_7 : decode cX10_chain 7 = .ok (.invokevirtual 44, 3) := by decide +kernel
theorem dX10_chain_10 : decode cX10_chain 10 = .ok (.ifCond .ne 9, 3) := by decide +kernel
theorem dX10_chain_13 : decode cX10_chain 13 = .ok (.aload_n 0, 1) := by decide +kernel
theorem dX10_chain_14 : decode cX10_chain 14 = .ok (.iconst 1, 1) := by decide +kernel
theorem dX10_chain_15 : decode cX10_chain 15 = .ok (.invokevirtual 31, 3) := by decide +kernel
theorem dX10_chain_18 : decode cX10_chain 18 = .ok (.ireturn, 1) := by decide +kernel
set_option maxRecDepth 20000 in
theorem ggX10_manyNow_Jx4a65c_iterator_32c93 : GoodIn wsX10_manyNow wsJx4a65c_iterator_32c93 := goodIn_r _ [13, 14, 15, 16, 17, 18, 19, 20, 21, 22, 23, 24, 25, 26, 27, 63, 64, 65, 66, 67, 68, 69] (by decide +kernel) (by decide +kernel)
set_option maxRecDepth 20000 in
theorem gX10_manyNow_Jx4a65c_iterator_32c93 : GoodIn wsX10_manyNow (wsV RX10 154 RJx4a65c yJx4a65c_iterator_32c93 wsJx4a65c_iterator_32c93) := goodIn_app (goodIn_of _ (by decide +kernel)) ggX10_manyNow_Jx4a65c_iterator_32c93
set_option maxRecDepth 20000 in
theorem ggX10_manyNow_Jx35411_hasNext_aae02 : GoodIn wsX10_manyNow wsJx35411_hasNext_aae02 := goodIn_r _ [31, 32, 20, 63, 64, 65, 66, 67, 68, 69] (by decide +kernel) (by decide +kernel)
set_option maxRecDepth 20000 in
theorem gX10_manyNow_Jx35411_hasNext_aae02_f158Jx35411 : GoodIn wsX10_manyNow (va_wsF RX10 158 RJx35411 ⟨"java/util/Iterator", "hasNext", "()Z"⟩ yJx35411_hasNext_aae02 wsJx35411_hasNext_aae02) := goodIn_app (goodIn_of _ (by decide +kernel)) ggX10_manyNow_Jx35411_hasNext_aae02
set_option maxRecDepth 20000 in
theorem ggX10_manyNow_Jx4a65c_size_8abf5 : GoodIn wsX10_manyNow wsJx4a65c_size_8abf5 := goodIn_r _ [53, 54, 67, 68, 69] (by decide +kernel) (by decide +kernel)
set_option maxRecDepth 20000 in
theorem gX10_manyNow_Jx4a65c_size_8abf5 : GoodIn wsX10_manyNow (wsV RX10 23 RJx4a65c yJx4a65c_size_8abf5 wsJx4a65c_size_8abf5) := goodIn_app (goodIn_of _ (by decide +kernel)) ggX10_manyNow_Jx4a65c_size_8abf5
theorem dX10_manyNow_0 : decode cX10_manyNow 0 = .ok (.iconst 0, 1) := by decide +kernel
theorem dX10_manyNow_1 : decode cX10_manyNow 1 = .ok (.istore_n 2, 1) := by decide +kernel
theorem dX10_manyNow_2 : decode cX10_manyNow 2 = .ok (.aload_n 0, 1) := by decide +kernel
theorem dX10_manyNow_3 : decode cX10_manyNow 3 = .ok (.getfield 10, 3) := by decide +kernel
theorem dX10_manyNow_6 : decode cX10_manyNow 6 = .ok (.invokevirtual 154, 3) := by decide +kernel
theorem dX10_manyNow_9 : decode cX10_manyNow 9 = .ok (.astore_n 3, 1) := by decide +kernel
theorem dX10_manyNow_10 : decode cX10_manyNow 10 = .ok (.aload_n 3, 1) := by decide +kernel
theorem dX10_manyNow_11 : decode cX10_manyNow 11 = .ok (.invokeinterface 158 1, 5) := by decide +kernel
theorem dX10_manyNow_16 : decode cX10_manyNow 16 = .ok (.ifCond .eq 26, 3) := by decide +kernel
theorem dX10_manyNow_42 : decode cX10_manyNow 42 = .ok (.bipush 7, 2) := by decide +kernel
theorem dX10_manyNow_44 : decode cX10_manyNow 44 = .ok (.newarray .int, 2) := by decide +kernel
theorem dX10_manyNow_46 : decode cX10_manyNow 46 = .ok (.dup, 1) := by decide +kernel
theorem dX10_manyNow_47 : decode cX10_manyNow 47 = .ok (.iconst 0, 1) := by decide +kernel
theorem dX10_manyNow_48 : decode cX10_manyNow 48 = .ok (.aload_n 0, 1) := by decide +kernel
theorem dX10_manyNow_49 : decode cX10_manyNow 49 = .ok (.getfield 10, 3) := by decide +kernel
theorem dX10_manyNow_52 : decode cX10_manyNow 52 = .ok (.invokevirtual 23, 3) := by decide +kernel
theorem dX10_manyNow_55 : decode cX10_manyNow 55 = .ok (.iastore, 1) := by decide +kernel
theorem dX10_manyNow_56 : decode cX10_manyNow 56 = .ok (.dup, 1) := by decide +kernel
theorem dX10_manyNow_57 : decode cX10_manyNow 57 = .ok (.iconst 1, 1) := by decide +kernel
theorem dX10_manyNow_58 : decode cX10_manyNow 58 = .ok (.aload_n 0, 1) := by decide +kernel
theorem dX10_manyNow_59 : decode cX10_manyNow 59 = .ok (.getfield 16, 3) := by decide +kernel
theorem dX10_manyNow_62 : decode cX10_manyNow 62 = .ok (.iastore, 1) := by decide +kernel
theorem dX10_manyNow_63 : decode cX10_manyNow 63 = .ok (.dup, 1) := by decide +kernel
theorem dX10_manyNow_64 : decode cX10_manyNow 64 = .ok (.iconst 2, 1) := by decide +kernel
theorem dX10_manyNow_65 : decode cX10_manyNow 65 = .ok (.aload_n 0, 1) := by decide +kernel
theorem dX10_manyNow_66 : decode cX10_manyNow 66 = .ok (.getfield 95, 3) := by decide +kernel
theorem dX10_manyNow_69 : decode cX10_manyNow 69 = .ok (.iastore, 1) := by decide +kernel
theorem dX10_manyNow_70 : decode cX10_manyNow 70 = .ok (.dup, 1) := by decide +kernel
theorem dX10_manyNow_71 : decode cX10_manyNow 71 = .ok (.iconst 3, 1) := by decide +kernel
theorem dX10_manyNow_72 : decode cX10_manyNow 72 = .ok (.aload_n 0, 1) := by decide +kernel
theorem dX10_manyNow_73 : decode cX10_manyNow 73 = .ok (.getfield 120, 3) := by decide +kernel
theorem dX10_manyNow_76 : decode cX10_manyNow 76 = .ok (.iastore, 1) := by decide +kernel
theorem dX10_manyNow_77 : decode cX10_manyNow 77 = .ok (.dup, 1) := by decide +kernel
theorem dX10_manyNow_78 : decode cX10_manyNow 78 = .ok (.iconst 4, 1) := by decide +kernel
theorem dX10_manyNow_79 : decode cX10_manyNow 79 = .ok (.iload_n 2, 1) := by decide +kernel
theorem dX10_manyNow_80 : decode cX10_manyNow 80 = .ok (.iastore, 1) := by decide +kernel
theorem dX10_manyNow_81 : decode cX10_manyNow 81 = .ok (.dup, 1) := by decide +kernel
theorem dX10_manyNow_82 : decode cX10_manyNow 82 = .ok (.iconst 5, 1) := by decide +kernel
theorem dX10_manyNow_83 : decode cX10_manyNow 83 = .ok (.aload_n 0, 1) := by decide +kernel
theorem dX10_manyNow_84 : decode cX10_manyNow 84 = .ok (.getfield 147, 3) := by decide +kernel
theorem dX10_manyNow_87 : decode cX10_manyNow 87 = .ok (.iastore, 1) := by decide +kernel
theorem dX10_manyNow_88 : decode cX10_manyNow 88 = .ok (.dup, 1) := by decide +kernel
theorem dX10_manyNow_89 : decode cX10_manyNow 89 = .ok (.bipush 6, 2) := by decide +kernel
theorem dX10_manyNow_91 : decode cX10_manyNow 91 = .ok (.aload_n 0, 1) := by decide +kernel
theorem dX10_manyNow_92 : decode cX10_manyNow 92 = .ok (.getfield 144, 3) := by decide +kernel
theorem dX10_manyNow_95 : decode cX10_manyNow 95 = .ok (.iastore, 1) := by decide +kernel
theorem dX10_manyNow_96 : decode cX10_manyNow 96 = .ok (.astore_n 3, 1) := by decide +kernel
theorem dX10_manyNow_97 : decode cX10_manyNow 97 = .ok (.aload_n 3, 1) := by decide +kernel
theorem dX10_manyNow_98 : decode cX10_manyNow 98 = .ok (.iload_n 1, 1) := by decide +kernel
theorem dX10_manyNow_99 : decode cX10_manyNow 99 = .ok (.iaload, 1) := by decide +kernel
theorem dX10_manyNow_100 : decode cX10_manyNow 100 = .ok (.ireturn, 1) := by decide +kernel
set_option maxRecDepth 20000 in
theorem ggX10_many_X10_is : GoodIn wsX10_many wsX10_is := goodIn_r _ [5] (by decide +kernel) (by decide +kernel)
set_option maxRecDepth 20000 in
theorem gX10_many_X10_is : GoodIn wsX10_many (va_wsS RX10 27 yX10_is wsX10_is) := goodIn_app (goodIn_of _ (by decide +kernel)) ggX10_many_X10_is
set_option maxRecDepth 20000 in
theorem ggX10_many_X10_manyNow : GoodIn wsX10_many wsX10_manyNow := goodIn_r _ [9, 10, 11, 12, 13, 14, 15, 16, 17, 18, 19, 20, 21, 22, 23, 24, 25, 26, 27, 28, 29, 30, 31, 32, 33, 34, 35, 36, 37, 38, 39, 40, 41, 42, 43, 44, 45, 46, 47, 48, 49, 50, 51, 52, 53, 54, 55, 56, 57, 58, 59, 60, 61, 62, 63, 68, 69, 70, 71, 72, 73, 74, 75, 76, 77, 78, 79, 80, 81, 82, 83, 84, 85, 86, 87, 88, 89, 90, 91, 92, 93] (by decide +kernel) (by decide +kernel)
set_option maxRecDepth 20000 in
theorem gX10_many_X10_manyNow : GoodIn wsX10_many (wsV RX10 229 RX10 yX10_manyNow wsX10_manyNow) := goodIn_app (goodIn_of _ (by decide +kernel)) ggX10_many_X10_manyNow
set_option maxRecDepth 20000 in
theorem ggX10_many_X10_refuse : GoodIn wsX10_many wsX10_refuse := goodIn_r _ [67, 1, 68, 69, 70, 71, 72, 73, 74, 75] (by decide +kernel) (by decide +kernel)
set_option maxRecDepth 20000 in
theorem gX10_many_X10_refuse : GoodIn wsX10_many (wsV RX10 31 RX10 yX10_refuse wsX10_refuse) := goodIn_app (goodIn_of _ (by decide +kernel)) ggX10_many_X10_refuse
theorem dX10_many_0 : decode cX10_many 0 = .ok (.aload_n 0, 1) := by decide +kernel
theorem dX10_many_1 : decode cX10_many 1 = .ok (.iconst 0, 1) := by decide +kernel
theorem dX10_many_2 : decode cX10_many 2 = .ok (.putfield 20, 3) := by decide +kernel
theorem dX10_many_5 : decode cX10_many 5 = .ok (.iload_n 1, 1) := by decide +kernel
theorem dX10_many_6 : decode cX10_many 6 = .ok (.iconst 0, 1) := by decide +kernel
theorem dX10_many_7 : decode cX10_many 7 = .ok (.bipush 6, 2) := by decide +kernel
theorem dX10_many_9 : decode cX10_many 9 = .ok (.invokestatic 27, 3) := by decide +kernel
theorem dX10_many_12 : decode cX10_many 12 = .ok (.ifCond .eq 11, 3) := by decide +kernel
theorem dX10_many_15 : decode cX10_many 15 = .ok (.aload_n 0, 1) := by decide +kernel
theorem dX10_many_16 : decode cX10_many 16 = .ok (.iload_n 1, 1) := by decide +kernel
theorem dX10_many_17 : decode cX10_many 17 = .ok (.invokevirtual 229, 3) := by decide +kernel
theorem dX10_many_20 : decode cX10_many 20 = .ok (.goto 8, 3) := by decide +kernel
theorem dX10_many_23 : decode cX10_many 23 = .ok (.aload_n 0, 1) := by decide +kernel
theorem dX10_many_24 : decode cX10_many 24 = .ok (.iconst 1, 1) := by decide +kernel
theorem dX10_many_25 : decode cX10_many 25 = .ok (.invokevirtual 31, 3) := by decide +kernel
theorem dX10_many_28 : decode cX10_many 28 = .ok (.ireturn, 1) := by decide +kernel
set_option maxRecDepth 20000 in
theorem ggX10_sure_X10_isTrack : GoodIn wsX10_sure wsX10_isTrack := goodIn_r _ [8, 2, 9, 10, 11, 12, 13, 14, 15, 16, 7, 17, 101, 102, 103, 104, 105, 106, 107, 108, 109, 110, 111] (by decide +kernel) (by decide +kernel)
set_option maxRecDepth 20000 in
theorem gX10_sure_X10_isTrack : GoodIn wsX10_sure (wsV RX10 44 RX10 yX10_isTrack wsX10_isTrack) := goodIn_app (goodIn_of _ (by decide +kernel)) ggX10_sure_X10_isTrack
theorem dX10_sure_0 : decode cX10_sure 0 = .ok (.aload_n 0, 1) := by decide +kernel
theorem dX10_sure_1 : decode cX10_sure 1 = .ok (.aload_n 0, 1) := by decide +kernel
theorem dX10_sure_2 : decode cX10_sure 2 = .ok (.iload_n 1, 1) := by decide +kernel
theorem dX10_sure_3 : decode cX10_sure 3 = .ok (.invokevirtual 44, 3) := by decide +kernel
theorem dX10_sure_6 : decode cX10_sure 6 = .ok (.ifCond .eq 7, 3) := by decide +kernel
theorem dX10_sure_13 : decode cX10_sure 13 = .ok (.iconst 1, 1) := by decide +kernel
theorem dX10_sure_14 : decode cX10_sure 14 = .ok (.putfield 20, 3) := by decide +kernel
theorem dX10_sure_17 : decode cX10_sure 17 = .ok (.aload_n 0, 1) := by decide +kernel
theorem dX10_sure_18 : decode cX10_sure 18 = .ok (.getfield 20, 3) := by decide +kernel
theorem dX10_sure_21 : decode cX10_sure 21 = .ok (.ifCond .le 5, 3) := by decide +kernel
theorem dX10_sure_24 : decode cX10_sure 24 = .ok (.dconst 0, 1) := by decide +kernel
theorem dX10_sure_25 : decode cX10_sure 25 = .ok (.dreturn, 1) := by decide +kernel
set_option maxRecDepth 20000 in
theorem ggX10_plainLong_X10_isTrack : GoodIn wsX10_plainLong wsX10_isTrack := goodIn_r _ [8, 2, 9, 10, 11, 12, 13, 14, 15, 16, 7, 17, 252, 253, 254, 255, 256, 257, 258, 259, 271, 272, 273] (by decide +kernel) (by decide +kernel)
set_option maxRecDepth 20000 in
theorem gX10_plainLong_X10_isTrack : GoodIn wsX10_plainLong (wsV RX10 44 RX10 yX10_isTrack wsX10_isTrack) := goodIn_app (goodIn_of _ (by decide +kernel)) ggX10_plainLong_X10_isTrack
set_option maxRecDepth 20000 in
theorem ggX10_plainLong_X10_refuse : GoodIn wsX10_plainLong wsX10_refuse := goodIn_r _ [251, 1, 252, 253, 254, 255, 256, 257, 258, 259] (by decide +kernel) (by decide +kernel)
set_option maxRecDepth 20000 in
theorem gX10_plainLong_X10_refuse : GoodIn wsX10_plainLong (wsV RX10 31 RX10 yX10_refuse wsX10_refuse) := goodIn_app (goodIn_of _ (by decide +kernel)) ggX10_plainLong_X10_refuse
theorem dX10_plainLong_0 : decode cX10_plainLong 0 = .ok (.aload_n 0, 1) := by decide +kernel
theorem dX10_plainLong_1 : decode cX10_plainLong 1 = .ok (.iconst 0, 1) := by decide +kernel
theorem dX10_plainLong_2 : decode cX10_plainLong 2 = .ok (.putfield 20, 3) := by decide +kernel
theorem dX10_plainLong_5 : decode cX10_plainLong 5 = .ok (.aload_n 0, 1) := by decide +kernel
theorem dX10_plainLong_6 : decode cX10_plainLong 6 = .ok (.iload_n 1, 1) := by decide +kernel
theorem dX10_plainLong_7 : decode cX10_plainLong 7 = .ok (.invokevirtual 44, 3) := by decide +kernel
theorem dX10_plainLong_10 : decode cX10_plainLong 10 = .ok (.ifCond .eq 23, 3) := by decide +kernel
theorem dX10_plainLong_33 : decode cX10_plainLong 33 = .ok (.aload_n 0, 1) := by decide +kernel
theorem dX10_plainLong_34 : decode cX10_plainLong 34 = .ok (.iconst 1, 1) := by decide +kernel
theorem dX10_plainLong_35 : decode cX10_plainLong 35 = .ok (.invokevirtual 31, 3) := by decide +kernel
theorem dX10_plainLong_38 : decode cX10_plainLong 38 = .ok (.ireturn, 1) := by decide +kernel
set_option maxRecDepth 20000 in
theorem ggX10_wouldLose_X10_isTrack : GoodIn wsX10_wouldLose wsX10_isTrack := goodIn_r _ [8, 2, 9, 10, 11, 12, 13, 14, 15, 16, 7, 17, 323, 324, 325, 326, 327, 328, 329, 330, 331, 332, 333] (by decide +kernel) (by decide +kernel)
set_option maxRecDepth 20000 in
theorem gX10_wouldLose_X10_isTrack : GoodIn wsX10_wouldLose (wsV RX10 44 RX10 yX10_isTrack wsX10_isTrack) := goodIn_app (goodIn_of _ (by decide +kernel)) ggX10_wouldLose_X10_isTrack
set_option maxRecDepth 20000 in
theorem ggX10_wouldLose_X10_refuse : GoodIn wsX10_wouldLose wsX10_refuse := goodIn_r _ [322, 1, 323, 324, 325, 326, 327, 328, 329, 330] (by decide +kernel) (by decide +kernel)
set_option maxRecDepth 20000 in
theorem gX10_wouldLose_X10_refuse : GoodIn wsX10_wouldLose (wsV RX10 31 RX10 yX10_refuse wsX10_refuse) := goodIn_app (goodIn_of _ (by decide +kernel)) ggX10_wouldLose_X10_refuse
theorem dX10_wouldLose_0 : decode cX10_wouldLose 0 = .ok (.aload_n 0, 1) := by decide +kernel
theorem dX10_wouldLose_1 : decode cX10_wouldLose 1 = .ok (.iconst 0, 1) := by decide +kernel
theorem dX10_wouldLose_2 : decode cX10_wouldLose 2 = .ok (.putfield 20, 3) := by decide +kernel
theorem dX10_wouldLose_5 : decode cX10_wouldLose 5 = .ok (.aload_n 0, 1) := by decide +kernel
theorem dX10_wouldLose_6 : decode cX10_wouldLose 6 = .ok (.iload_n 1, 1) := by decide +kernel
theorem dX10_wouldLose_7 : decode cX10_wouldLose 7 = .ok (.invokevirtual 44, 3) := by decide +kernel
theorem dX10_wouldLose_10 : decode cX10_wouldLose 10 = .ok (.ifCond .eq 20, 3) := by decide +kernel
theorem dX10_wouldLose_30 : decode cX10_wouldLose 30 = .ok (.aload_n 0, 1) := by decide +kernel
theorem dX10_wouldLose_31 : decode cX10_wouldLose 31 = .ok (.iconst 1, 1) := by decide +kernel
theorem dX10_wouldLose_32 : decode cX10_wouldLose 32 = .ok (.invokevirtual 31, 3) := by decide +kernel
theorem dX10_wouldLose_35 : decode cX10_wouldLose 35 = .ok (.ireturn, 1) := by decide +kernel
set_option maxRecDepth 20000 in
theorem ggX10_goodBy_X10_isTrack : GoodIn wsX10_goodBy wsX10_isTrack := goodIn_r _ [8, 2, 9, 10, 11, 12, 13, 14, 15, 16, 7, 17, 205, 206, 207, 208, 209, 210, 211, 212, 213, 214, 215] (by decide +kernel) (by decide +kernel)
set_option maxRecDepth 20000 in
theorem gX10_goodBy_X10_isTrack : GoodIn wsX10_goodBy (wsV RX10 44 RX10 yX10_isTrack wsX10_isTrack) := goodIn_app (goodIn_of _ (by decide +kernel)) ggX10_goodBy_X10_isTrack
set_option maxRecDepth 20000 in
theorem ggX10_goodBy_X10_refuse : GoodIn wsX10_goodBy wsX10_refuse := goodIn_r _ [21, 1, 205, 206, 207, 208, 209, 210, 211, 212] (by decide +kernel) (by decide +kernel)
set_option maxRecDepth 20000 in
theorem gX10_goodBy_X10_refuse : GoodIn wsX10_goodBy (wsV RX10 31 RX10 yX10_refuse wsX10_refuse) := goodIn_app (goodIn_of _ (by decide +kernel)) ggX10_goodBy_X10_refuse
theorem dX10_goodBy_0 : decode cX10_goodBy 0 = .ok (.aload_n 0, 1) := by decide +kernel
theorem dX10_goodBy_1 : decode cX10_goodBy 1 = .ok (.iconst 0, 1) := by decide +kernel
theorem dX10_goodBy_2 : decode cX10_goodBy 2 = .ok (.putfield 20, 3) := by decide +kernel
theorem dX10_goodBy_5 : decode cX10_goodBy 5 = .ok (.aload_n 0, 1) := by decide +kernel
theorem dX10_goodBy_6 : decode cX10_goodBy 6 = .ok (.iload_n 1, 1) := by decide +kernel
theorem dX10_goodBy_7 : decode cX10_goodBy 7 = .ok (.invokevirtual 44, 3) := by decide +kernel
theorem dX10_goodBy_10 : decode cX10_goodBy 10 = .ok (.ifCond .ne 9, 3) := by decide +kernel
theorem dX10_goodBy_13 : decode cX10_goodBy 13 = .ok (.aload_n 0, 1) := by decide +kernel
theorem dX10_goodBy_14 : decode cX10_goodBy 14 = .ok (.iconst 1, 1) := by decide +kernel
theorem dX10_goodBy_15 : decode cX10_goodBy 15 = .ok (.invokevirtual 31, 3) := by decide +kernel
theorem dX10_goodBy_18 : decode cX10_goodBy 18 = .ok (.ireturn, 1) := by decide +kernel
theorem dX10_add_0 : decode cX10_add 0 = .ok (.aload_n 0, 1) := by decide +kernel
theorem dX10_add_1 : decode cX10_add 1 = .ok (.aload_n 0, 1) := by decide +kernel
theorem dX10_add_2 : decode cX10_add 2 = .ok (.getfield 247, 3) := by decide +kernel
theorem dX10_add_5 : decode cX10_add 5 = .ok (.ldc2_w 250, 3) := by decide +kernel
theorem dX10_add_8 : decode cX10_add 8 = .ok (.lmul, 1) := by decide +kernel
theorem dX10_add_9 : decode cX10_add 9 = .ok (.iload_n 1, 1) := by decide +kernel
theorem dX10_add_10 : decode cX10_add 10 = .ok (.i2l, 1) := by decide +kernel
theorem dX10_add_11 : decode cX10_add 11 = .ok (.ladd, 1) := by decide +kernel
theorem dX10_add_12 : decode cX10_add 12 = .ok (.putfield 247, 3) := by decide +kernel
theorem dX10_add_15 : decode cX10_add 15 = .ok (.return_, 1) := by decide +kernel
set_option maxRecDepth 20000 in
theorem ggX10_digest_X10_manyNow : GoodIn wsX10_digest wsX10_manyNow := goodIn_r _ [12, 4, 5, 13, 14, 15, 16, 17, 18, 19, 20, 21, 22, 23, 24, 25, 26, 27, 28, 29, 30, 31, 32, 33, 34, 35, 36, 37, 38, 39, 40, 41, 42, 43, 44, 45, 46, 47, 48, 49, 50, 51, 52, 53, 54, 55, 56, 57, 58, 59, 60, 61, 62, 63, 64, 359, 360, 361, 362, 363, 364, 365, 366, 381, 382, 383, 384, 385, 386, 387, 367, 368, 369, 370, 371, 372, 373, 374, 375, 376, 377] (by decide +kernel) (by decide +kernel)
set_option maxRecDepth 20000 in
theorem gX10_digest_X10_manyNow : GoodIn wsX10_digest (wsV RX10 229 RX10 yX10_manyNow wsX10_manyNow) := goodIn_app (goodIn_of _ (by decide +kernel)) ggX10_digest_X10_manyNow
set_option maxRecDepth 20000 in
theorem ggX10_digest_X10_add : GoodIn wsX10_digest wsX10_add := goodIn_r _ [68, 3, 69, 359, 360, 361, 362, 363, 364, 365, 366] (by decide +kernel) (by decide +kernel)
set_option maxRecDepth 20000 in
theorem gX10_digest_X10_add : GoodIn wsX10_digest (wsV RX10 254 RX10 yX10_add wsX10_add) := goodIn_app (goodIn_of _ (by decide +kernel)) ggX10_digest_X10_add
set_option maxRecDepth 20000 in
theorem ggX10_digest_Jx4a65c_iterator_32c93 : GoodIn wsX10_digest wsJx4a65c_iterator_32c93 := goodIn_r _ [23, 24, 25, 26, 27, 28, 29, 30, 31, 32, 33, 34, 35, 36, 37, 381, 382, 383, 384, 385, 386, 387] (by decide +kernel) (by decide +kernel)
set_option maxRecDepth 20000 in
theorem gX10_digest_Jx4a65c_iterator_32c93 : GoodIn wsX10_digest (wsV RX10 154 RJx4a65c yJx4a65c_iterator_32c93 wsJx4a65c_iterator_32c93) := goodIn_app (goodIn_of _ (by decide +kernel)) ggX10_digest_Jx4a65c_iterator_32c93
set_option maxRecDepth 20000 in
theorem ggX10_digest_Jx35411_hasNext_aae02 : GoodIn wsX10_digest wsJx35411_hasNext_aae02 := goodIn_r _ [41, 42, 30, 381, 382, 383, 384, 385, 386, 387] (by decide +kernel) (by decide +kernel)
set_option maxRecDepth 20000 in
theorem gX10_digest_Jx35411_hasNext_aae02_f158Jx35411 : GoodIn wsX10_digest (va_wsF RX10 158 RJx35411 ⟨"java/util/Iterator", "hasNext", "()Z"⟩ yJx35411_hasNext_aae02 wsJx35411_hasNext_aae02) := goodIn_app (goodIn_of _ (by decide +kernel)) ggX10_digest_Jx35411_hasNext_aae02
theorem dX10_digest_0 : decode cX10_digest 0 = .ok (.aload_n 0, 1) := by decide +kernel
theorem dX10_digest_1 : decode cX10_digest 1 = .ok (.iconst 0, 1) := by decide +kernel
theorem dX10_digest_2 : decode cX10_digest 2 = .ok (.putfield 20, 3) := by decide +kernel
theorem dX10_digest_5 : decode cX10_digest 5 = .ok (.aload_n 0, 1) := by decide +kernel
theorem dX10_digest_6 : decode cX10_digest 6 = .ok (.ldc2_w 252, 3) := by decide +kernel
theorem dX10_digest_9 : decode cX10_digest 9 = .ok (.putfield 247, 3) := by decide +kernel
theorem dX10_digest_12 : decode cX10_digest 12 = .ok (.iconst 0, 1) := by decide +kernel
theorem dX10_digest_13 : decode cX10_digest 13 = .ok (.istore_n 1, 1) := by decide +kernel
theorem dX10_digest_14 : decode cX10_digest 14 = .ok (.iload_n 1, 1) := by decide +kernel
theorem dX10_digest_15 : decode cX10_digest 15 = .ok (.bipush 7, 2) := by decide +kernel
theorem dX10_digest_17 : decode cX10_digest 17 = .ok (.if_icmp .ge 18, 3) := by decide +kernel
theorem dX10_digest_20 : decode cX10_digest 20 = .ok (.aload_n 0, 1) := by decide +kernel
theorem dX10_digest_21 : decode cX10_digest 21 = .ok (.aload_n 0, 1) := by decide +kernel
theorem dX10_digest_22 : decode cX10_digest 22 = .ok (.iload_n 1, 1) := by decide +kernel
theorem dX10_digest_23 : decode cX10_digest 23 = .ok (.invokevirtual 229, 3) := by decide +kernel
theorem dX10_digest_26 : decode cX10_digest 26 = .ok (.invokevirtual 254, 3) := by decide +kernel
theorem dX10_digest_29 : decode cX10_digest 29 = .ok (.iinc 1 1, 3) := by decide +kernel
theorem dX10_digest_32 : decode cX10_digest 32 = .ok (.goto (-18), 3) := by decide +kernel
theorem dX10_digest_35 : decode cX10_digest 35 = .ok (.aload_n 0, 1) := by decide +kernel
theorem dX10_digest_36 : decode cX10_digest 36 = .ok (.getfield 10, 3) := by decide +kernel
theorem dX10_digest_39 : decode cX10_digest 39 = .ok (.invokevirtual 154, 3) := by decide +kernel
theorem dX10_digest_42 : decode cX10_digest 42 = .ok (.astore_n 1, 1) := by decide +kernel
theorem dX10_digest_43 : decode cX10_digest 43 = .ok (.aload_n 1, 1) := by decide +kernel
theorem dX10_digest_44 : decode cX10_digest 44 = .ok (.invokeinterface 158 1, 5) := by decide +kernel
theorem dX10_digest_49 : decode cX10_digest 49 = .ok (.ifCond .eq 188, 3) := by decide +kernel
theorem dX10_digest_237 : decode cX10_digest 237 = .ok (.aload_n 0, 1) := by decide +kernel
theorem dX10_digest_238 : decode cX10_digest 238 = .ok (.getfield 247, 3) := by decide +kernel
theorem dX10_digest_241 : decode cX10_digest 241 = .ok (.lreturn, 1) := by decide +kernel
theorem dJxa1e45_init_da8c8_0 : decode cJxa1e45_init_da8c8 0 = .ok (.aload_n 0, 1) := by decide +kernel
theorem dJxa1e45_init_da8c8_1 : decode cJxa1e45_init_da8c8 1 = .ok (.invokespecial 1, 3) := by decide +kernel
theorem dJxa1e45_init_da8c8_4 : decode cJxa1e45_init_da8c8 4 = .ok (.return_, 1) := by decide +kernel
set_option maxRecDepth 20000 in
theorem ggJxc12de_init_da8c8_Jxa1e45_init_da8c8 : GoodIn wsJxc12de_init_da8c8 wsJxa1e45_init_da8c8 := goodIn_r _ [5, 6, 7, 8] (by decide +kernel) (by decide +kernel)
set_option maxRecDepth 20000 in
theorem gJxc12de_init_da8c8_Jxa1e45_init_da8c8 : GoodIn wsJxc12de_init_da8c8 (wsJxa1e45_init_da8c8) := ggJxc12de_init_da8c8_Jxa1e45_init_da8c8
theorem dJxc12de_init_da8c8_0 : decode cJxc12de_init_da8c8 0 = .ok (.aload_n 0, 1) := by decide +kernel
theorem dJxc12de_init_da8c8_1 : decode cJxc12de_init_da8c8 1 = .ok (.invokespecial 1, 3) := by decide +kernel
theorem dJxc12de_init_da8c8_4 : decode cJxc12de_init_da8c8 4 = .ok (.aload_n 0, 1) := by decide +kernel
theorem dJxc12de_init_da8c8_5 : decode cJxc12de_init_da8c8 5 = .ok (.iconst 0, 1) := by decide +kernel
theorem dJxc12de_init_da8c8_6 : decode cJxc12de_init_da8c8 6 = .ok (.putfield 7, 3) := by decide +kernel
theorem dJxc12de_init_da8c8_9 : decode cJxc12de_init_da8c8 9 = .ok (.return_, 1) := by decide +kernel
theorem dJx35411_init_45d68_0 : decode cJx35411_init_45d68 0 = .ok (.aload_n 0, 1) := by decide +kernel
theorem dJx35411_init_45d68_1 : decode cJx35411_init_45d68 1 = .ok (.aload_n 1, 1) := by decide +kernel
theorem dJx35411_init_45d68_2 : decode cJx35411_init_45d68 2 = .ok (.putfield 1, 3) := by decide +kernel
theorem dJx35411_init_45d68_5 : decode cJx35411_init_45d68 5 = .ok (.aload_n 0, 1) := by decide +kernel
theorem dJx35411_init_45d68_6 : decode cJx35411_init_45d68 6 = .ok (.invokespecial 7, 3) := by decide +kernel
theorem dJx35411_init_45d68_9 : decode cJx35411_init_45d68 9 = .ok (.aload_n 0, 1) := by decide +kernel
theorem dJx35411_init_45d68_10 : decode cJx35411_init_45d68 10 = .ok (.iconst (-1), 1) := by decide +kernel
theorem dJx35411_init_45d68_11 : decode cJx35411_init_45d68 11 = .ok (.putfield 13, 3) := by decide +kernel
theorem dJx35411_init_45d68_14 : decode cJx35411_init_45d68 14 = .ok (.aload_n 0, 1) := by decide +kernel
theorem dJx35411_init_45d68_15 : decode cJx35411_init_45d68 15 = .ok (.aload_n 0, 1) := by decide +kernel
theorem dJx35411_init_45d68_16 : decode cJx35411_init_45d68 16 = .ok (.getfield 1, 3) := by decide +kernel
theorem dJx35411_init_45d68_19 : decode cJx35411_init_45d68 19 = .ok (.getfield 17, 3) := by decide +kernel
theorem dJx35411_init_45d68_22 : decode cJx35411_init_45d68 22 = .ok (.putfield 22, 3) := by decide +kernel
theorem dJx35411_init_45d68_25 : decode cJx35411_init_45d68 25 = .ok (.return_, 1) := by decide +kernel
theorem dJx35411_hasNext_aae02_0 : decode cJx35411_hasNext_aae02 0 = .ok (.aload_n 0, 1) := by decide +kernel
theorem dJx35411_hasNext_aae02_1 : decode cJx35411_hasNext_aae02 1 = .ok (.getfield 25, 3) := by decide +kernel
theorem dJx35411_hasNext_aae02_4 : decode cJx35411_hasNext_aae02 4 = .ok (.aload_n 0, 1) := by decide +kernel
theorem dJx35411_hasNext_aae02_5 : decode cJx35411_hasNext_aae02 5 = .ok (.getfield 1, 3) := by decide +kernel
theorem dJx35411_hasNext_aae02_8 : decode cJx35411_hasNext_aae02 8 = .ok (.getfield 28, 3) := by decide +kernel
theorem dJx35411_hasNext_aae02_11 : decode cJx35411_hasNext_aae02 11 = .ok (.if_icmp .eq 7, 3) := by decide +kernel
theorem dJx35411_hasNext_aae02_14 : decode cJx35411_hasNext_aae02 14 = .ok (.iconst 1, 1) := by decide +kernel
theorem dJx35411_hasNext_aae02_15 : decode cJx35411_hasNext_aae02 15 = .ok (.goto 4, 3) := by decide +kernel
theorem dJx35411_hasNext_aae02_18 : decode cJx35411_hasNext_aae02 18 = .ok (.iconst 0, 1) := by decide +kernel
theorem dJx35411_hasNext_aae02_19 : decode cJx35411_hasNext_aae02 19 = .ok (.ireturn, 1) := by decide +kernel
set_option maxRecDepth 20000 in
theorem ggJx4a65c_init_da8c8_Jxc12de_init_da8c8 : GoodIn wsJx4a65c_init_da8c8 wsJxc12de_init_da8c8 := goodIn_r _ [6, 7, 8, 9, 10, 11, 12, 13, 14, 15, 16, 17] (by decide +kernel) (by decide +kernel)
set_option maxRecDepth 20000 in
theorem gJx4a65c_init_da8c8_Jxc12de_init_da8c8 : GoodIn wsJx4a65c_init_da8c8 (wsJxc12de_init_da8c8) := ggJx4a65c_init_da8c8_Jxc12de_init_da8c8
theorem dJx4a65c_init_da8c8_0 : decode cJx4a65c_init_da8c8 0 = .ok (.aload_n 0, 1) := by decide +kernel
theorem dJx4a65c_init_da8c8_1 : decode cJx4a65c_init_da8c8 1 = .ok (.invokespecial 1, 3) := by decide +kernel
theorem dJx4a65c_init_da8c8_4 : decode cJx4a65c_init_da8c8 4 = .ok (.aload_n 0, 1) := by decide +kernel
theorem dJx4a65c_init_da8c8_5 : decode cJx4a65c_init_da8c8 5 = .ok (.getstatic 39, 3) := by decide +kernel
theorem dJx4a65c_init_da8c8_8 : decode cJx4a65c_init_da8c8 8 = .ok (.putfield 9, 3) := by decide +kernel
theorem dJx4a65c_init_da8c8_11 : decode cJx4a65c_init_da8c8 11 = .ok (.return_, 1) := by decide +kernel
theorem dJx4a65c_grow_92f84_0 : decode cJx4a65c_grow_92f84 0 = .ok (.aload_n 0, 1) := by decide +kernel
theorem dJx4a65c_grow_92f84_1 : decode cJx4a65c_grow_92f84 1 = .ok (.getfield 9, 3) := by decide +kernel
theorem dJx4a65c_grow_92f84_4 : decode cJx4a65c_grow_92f84 4 = .ok (.arraylength, 1) := by decide +kernel
theorem dJx4a65c_grow_92f84_5 : decode cJx4a65c_grow_92f84 5 = .ok (.istore_n 2, 1) := by decide +kernel
theorem dJx4a65c_grow_92f84_6 : decode cJx4a65c_grow_92f84 6 = .ok (.iload_n 2, 1) := by decide +kernel
theorem dJx4a65c_grow_92f84_7 : decode cJx4a65c_grow_92f84 7 = .ok (.ifCond .gt 13, 3) := by decide +kernel
theorem dJx4a65c_grow_92f84_10 : decode cJx4a65c_grow_92f84 10 = .ok (.aload_n 0, 1) := by decide +kernel
theorem dJx4a65c_grow_92f84_11 : decode cJx4a65c_grow_92f84 11 = .ok (.getfield 9, 3) := by decide +kernel
theorem dJx4a65c_grow_92f84_14 : decode cJx4a65c_grow_92f84 14 = .ok (.getstatic 39, 3) := by decide +kernel
theorem dJx4a65c_grow_92f84_17 : decode cJx4a65c_grow_92f84 17 = .ok (.if_acmp .eq 28, 3) := by decide +kernel
theorem dJx4a65c_grow_92f84_45 : decode cJx4a65c_grow_92f84 45 = .ok (.aload_n 0, 1) := by decide +kernel
theorem dJx4a65c_grow_92f84_46 : decode cJx4a65c_grow_92f84 46 = .ok (.bipush 10, 2) := by decide +kernel
theorem dJx4a65c_grow_92f84_48 : decode cJx4a65c_grow_92f84 48 = .ok (.iload_n 1, 1) := by decide +kernel
theorem dJx4a65c_grow_92f84_49 : decode cJx4a65c_grow_92f84 49 = .ok (.invokestatic 79, 3) := by decide +kernel
theorem dJx4a65c_grow_92f84_52 : decode cJx4a65c_grow_92f84 52 = .ok (.anewarray 7, 3) := by decide +kernel
theorem dJx4a65c_grow_92f84_55 : decode cJx4a65c_grow_92f84 55 = .ok (.dup_x1, 1) := by decide +kernel
theorem dJx4a65c_grow_92f84_56 : decode cJx4a65c_grow_92f84 56 = .ok (.putfield 9, 3) := by decide +kernel
theorem dJx4a65c_grow_92f84_59 : decode cJx4a65c_grow_92f84 59 = .ok (.areturn, 1) := by decide +kernel
set_option maxRecDepth 20000 in
theorem ggJx4a65c_grow_d5877_Jx4a65c_grow_92f84 : GoodIn wsJx4a65c_grow_d5877 wsJx4a65c_grow_92f84 := goodIn_r _ [6, 7, 8, 9, 10, 11, 12, 13, 14, 15, 16, 17, 18, 19, 20, 21, 22, 23, 24, 25, 26, 27, 28, 29, 30, 31, 32, 33, 34, 35, 36, 37, 38, 39, 40, 41, 42, 43, 44, 45] (by decide +kernel) (by decide +kernel)
set_option maxRecDepth 20000 in
theorem gJx4a65c_grow_d5877_Jx4a65c_grow_92f84 : GoodIn wsJx4a65c_grow_d5877 (wsV RJx4a65c 69 RJx4a65c yJx4a65c_grow_92f84 wsJx4a65c_grow_92f84) := goodIn_app (goodIn_of _ (by decide +kernel)) ggJx4a65c_grow_d5877_Jx4a65c_grow_92f84
theorem dJx4a65c_grow_d5877_0 : decode cJx4a65c_grow_d5877 0 = .ok (.aload_n 0, 1) := by decide +kernel
theorem dJx4a65c_grow_d5877_1 : decode cJx4a65c_grow_d5877 1 = .ok (.aload_n 0, 1) := by decide +kernel
theorem dJx4a65c_grow_d5877_2 : decode cJx4a65c_grow_d5877 2 = .ok (.getfield 48, 3) := by decide +kernel
theorem dJx4a65c_grow_d5877_5 : decode cJx4a65c_grow_d5877 5 = .ok (.iconst 1, 1) := by decide +kernel
theorem dJx4a65c_grow_d5877_6 : decode cJx4a65c_grow_d5877 6 = .ok (.iadd, 1) := by decide +kernel
theorem dJx4a65c_grow_d5877_7 : decode cJx4a65c_grow_d5877 7 = .ok (.invokevirtual 69, 3) := by decide +kernel
theorem dJx4a65c_grow_d5877_10 : decode cJx4a65c_grow_d5877 10 = .ok (.areturn, 1) := by decide +kernel
theorem dJx4a65c_size_8abf5_0 : decode cJx4a65c_size_8abf5 0 = .ok (.aload_n 0, 1) := by decide +kernel
theorem dJx4a65c_size_8abf5_1 : decode cJx4a65c_size_8abf5 1 = .ok (.getfield 48, 3) := by decide +kernel
theorem dJx4a65c_size_8abf5_4 : decode cJx4a65c_size_8abf5 4 = .ok (.ireturn, 1) := by decide +kernel
set_option maxRecDepth 20000 in
theorem ggJx4a65c_add_72be8_Jx4a65c_grow_d5877 : GoodIn wsJx4a65c_add_72be8 wsJx4a65c_grow_d5877 := goodIn_r _ [6, 1, 7, 8, 9, 5, 10, 11, 12, 13, 14, 15, 16, 17, 18, 19, 20, 21, 22, 23, 24, 25, 26, 27, 28, 29, 30, 31, 32, 33, 34, 35, 36, 37, 38, 39, 40, 41, 42, 43, 44, 45, 46, 47, 48, 49] (by decide +kernel) (by decide +kernel)
set_option maxRecDepth 20000 in
theorem gJx4a65c_add_72be8_Jx4a65c_grow_d5877 : GoodIn wsJx4a65c_add_72be8 (wsV RJx4a65c 129 RJx4a65c yJx4a65c_grow_d5877 wsJx4a65c_grow_d5877) := goodIn_app (goodIn_of _ (by decide +kernel)) ggJx4a65c_add_72be8_Jx4a65c_grow_d5877
theorem dJx4a65c_add_72be8_0 : decode cJx4a65c_add_72be8 0 = .ok (.iload_n 3, 1) := by decide +kernel
theorem dJx4a65c_add_72be8_1 : decode cJx4a65c_add_72be8 1 = .ok (.aload_n 2, 1) := by decide +kernel
theorem dJx4a65c_add_72be8_2 : decode cJx4a65c_add_72be8 2 = .ok (.arraylength, 1) := by decide +kernel
theorem dJx4a65c_add_72be8_3 : decode cJx4a65c_add_72be8 3 = .ok (.if_icmp .ne 8, 3) := by decide +kernel
theorem dJx4a65c_add_72be8_6 : decode cJx4a65c_add_72be8 6 = .ok (.aload_n 0, 1) := by decide +kernel
theorem dJx4a65c_add_72be8_7 : decode cJx4a65c_add_72be8 7 = .ok (.invokevirtual 129, 3) := by decide +kernel
theorem dJx4a65c_add_72be8_10 : decode cJx4a65c_add_72be8 10 = .ok (.astore_n 2, 1) := by decide +kernel
theorem dJx4a65c_add_72be8_11 : decode cJx4a65c_add_72be8 11 = .ok (.aload_n 2, 1) := by decide +kernel
theorem dJx4a65c_add_72be8_12 : decode cJx4a65c_add_72be8 12 = .ok (.iload_n 3, 1) := by decide +kernel
theorem dJx4a65c_add_72be8_13 : decode cJx4a65c_add_72be8 13 = .ok (.aload_n 1, 1) := by decide +kernel
theorem dJx4a65c_add_72be8_14 : decode cJx4a65c_add_72be8 14 = .ok (.aastore, 1) := by decide +kernel
theorem dJx4a65c_add_72be8_15 : decode cJx4a65c_add_72be8 15 = .ok (.aload_n 0, 1) := by decide +kernel
theorem dJx4a65c_add_72be8_16 : decode cJx4a65c_add_72be8 16 = .ok (.iload_n 3, 1) := by decide +kernel
theorem dJx4a65c_add_72be8_17 : decode cJx4a65c_add_72be8 17 = .ok (.iconst 1, 1) := by decide +kernel
theorem dJx4a65c_add_72be8_18 : decode cJx4a65c_add_72be8 18 = .ok (.iadd, 1) := by decide +kernel
theorem dJx4a65c_add_72be8_19 : decode cJx4a65c_add_72be8 19 = .ok (.putfield 48, 3) := by decide +kernel
theorem dJx4a65c_add_72be8_22 : decode cJx4a65c_add_72be8 22 = .ok (.return_, 1) := by decide +kernel
set_option maxRecDepth 20000 in
theorem ggJx4a65c_add_9ea2d_Jx4a65c_add_72be8 : GoodIn wsJx4a65c_add_9ea2d wsJx4a65c_add_72be8 := goodIn_r _ [9, 4, 10, 11, 12, 8, 13, 14, 15, 16, 17, 3, 18, 19, 20, 21, 22, 23, 24, 25, 26, 27, 28, 29, 30, 31, 32, 33, 34, 35, 36, 37, 38, 39, 40, 41, 42, 43, 44, 45, 46, 47, 48, 49, 50, 51, 52, 53, 54, 55] (by decide +kernel) (by decide +kernel)
set_option maxRecDepth 20000 in
theorem gJx4a65c_add_9ea2d_Jx4a65c_add_72be8 : GoodIn wsJx4a65c_add_9ea2d (wsV RJx4a65c 131 RJx4a65c yJx4a65c_add_72be8 wsJx4a65c_add_72be8) := goodIn_app (goodIn_of _ (by decide +kernel)) ggJx4a65c_add_9ea2d_Jx4a65c_add_72be8
theorem dJx4a65c_add_9ea2d_0 : decode cJx4a65c_add_9ea2d 0 = .ok (.aload_n 0, 1) := by decide +kernel
theorem dJx4a65c_add_9ea2d_1 : decode cJx4a65c_add_9ea2d 1 = .ok (.dup, 1) := by decide +kernel
theorem dJx4a65c_add_9ea2d_2 : decode cJx4a65c_add_9ea2d 2 = .ok (.getfield 63, 3) := by decide +kernel
theorem dJx4a65c_add_9ea2d_5 : decode cJx4a65c_add_9ea2d 5 = .ok (.iconst 1, 1) := by decide +kernel
theorem dJx4a65c_add_9ea2d_6 : decode cJx4a65c_add_9ea2d 6 = .ok (.iadd, 1) := by decide +kernel
theorem dJx4a65c_add_9ea2d_7 : decode cJx4a65c_add_9ea2d 7 = .ok (.putfield 63, 3) := by decide +kernel
theorem dJx4a65c_add_9ea2d_10 : decode cJx4a65c_add_9ea2d 10 = .ok (.aload_n 0, 1) := by decide +kernel
theorem dJx4a65c_add_9ea2d_11 : decode cJx4a65c_add_9ea2d 11 = .ok (.aload_n 1, 1) := by decide +kernel
theorem dJx4a65c_add_9ea2d_12 : decode cJx4a65c_add_9ea2d 12 = .ok (.aload_n 0, 1) := by decide +kernel
theorem dJx4a65c_add_9ea2d_13 : decode cJx4a65c_add_9ea2d 13 = .ok (.getfield 9, 3) := by decide +kernel
theorem dJx4a65c_add_9ea2d_16 : decode cJx4a65c_add_9ea2d 16 = .ok (.aload_n 0, 1) := by decide +kernel
theorem dJx4a65c_add_9ea2d_17 : decode cJx4a65c_add_9ea2d 17 = .ok (.getfield 48, 3) := by decide +kernel
theorem dJx4a65c_add_9ea2d_20 : decode cJx4a65c_add_9ea2d 20 = .ok (.invokevirtual 131, 3) := by decide +kernel
theorem dJx4a65c_add_9ea2d_23 : decode cJx4a65c_add_9ea2d 23 = .ok (.iconst 1, 1) := by decide +kernel
theorem dJx4a65c_add_9ea2d_24 : decode cJx4a65c_add_9ea2d 24 = .ok (.ireturn, 1) := by decide +kernel
set_option maxRecDepth 20000 in
theorem ggJx4a65c_iterator_32c93_Jx35411_init_45d68 : GoodIn wsJx4a65c_iterator_32c93 wsJx35411_init_45d68 := goodIn_r _ [6, 7, 8, 9, 10, 11, 12, 13, 14, 15, 16, 17, 18, 19, 20, 21] (by decide +kernel) (by decide +kernel)
set_option maxRecDepth 20000 in
theorem gJx4a65c_iterator_32c93_Jx35411_init_45d68 : GoodIn wsJx4a65c_iterator_32c93 (wsJx35411_init_45d68) := ggJx4a65c_iterator_32c93_Jx35411_init_45d68
theorem dJx4a65c_iterator_32c93_0 : decode cJx4a65c_iterator_32c93 0 = .ok (.new 267, 3) := by decide +kernel
theorem dJx4a65c_iterator_32c93_3 : decode cJx4a65c_iterator_32c93 3 = .ok (.dup, 1) := by decide +kernel
theorem dJx4a65c_iterator_32c93_4 : decode cJx4a65c_iterator_32c93 4 = .ok (.aload_n 0, 1) := by decide +kernel
theorem dJx4a65c_iterator_32c93_5 : decode cJx4a65c_iterator_32c93 5 = .ok (.invokespecial 269, 3) := by decide +kernel
theorem dJx4a65c_iterator_32c93_8 : decode cJx4a65c_iterator_32c93 8 = .ok (.areturn, 1) := by decide +kernel
set_option maxRecDepth 20000 in
theorem ggL_track_X6_track : GoodIn wsL_track wsX6_track := goodIn_ca (goodIn_ca (goodIn_r _ [7, 8, 9, 10, 11, 12, 13, 14, 15, 16, 6, 17, 18, 19, 20, 21, 22, 23, 24, 25, 26, 27, 28, 29, 30, 31, 32, 33, 34, 35, 36, 37, 38, 39, 40, 41, 42, 43, 44, 45, 46, 47, 48, 49, 50, 51, 52, 53, 54, 55, 56, 57, 58, 59, 60, 61, 62, 63, 64, 65, 66, 67, 68, 69, 70, 71, 72, 73, 74, 75, 76, 77, 78, 79, 80, 81, 82, 83, 84, 85, 86, 87, 88, 89, 90, 91, 92, 93, 94, 95, 96, 97, 98, 99, 100, 101, 102, 103, 104, 105, 106, 107, 108, 109, 110, 111, 112, 113, 114, 115, 116, 117, 118, 119, 120, 121, 122, 123, 124, 125] (by decide +kernel) (by decide +kernel)) (goodIn_sub (fun _ h => List.mem_cons_of_mem _ (List.mem_append_left _ (List.mem_append_right _ h))) (by decide +kernel))) (goodIn_sub (fun _ h => List.mem_cons_of_mem _ (List.mem_append_right _ h)) (by decide +kernel))
set_option maxRecDepth 20000 in
theorem gL_track_X6_track : GoodIn wsL_track (wsV RL 7 RX6 yX6_track wsX6_track) := goodIn_app (goodIn_of _ (by decide +kernel)) ggL_track_X6_track
theorem dL_track_0 : decode cL_track 0 = .ok (.aload_n 2, 1) := by decide +kernel
theorem dL_track_1 : decode cL_track 1 = .ok (.iconst 0, 1) := by decide +kernel
theorem dL_track_2 : decode cL_track 2 = .ok (.aload_n 0, 1) := by decide +kernel
theorem dL_track_3 : decode cL_track 3 = .ok (.iload_n 1, 1) := by decide +kernel
theorem dL_track_4 : decode cL_track 4 = .ok (.invokevirtual 7, 3) := by decide +kernel
theorem dL_track_7 : decode cL_track 7 = .ok (.i2l, 1) := by decide +kernel
theorem dL_track_8 : decode cL_track 8 = .ok (.lastore, 1) := by decide +kernel
theorem dL_track_9 : decode cL_track 9 = .ok (.goto 9, 3) := by decide +kernel
theorem dL_track_12 : decode cL_track 12 = .ok (.astore_n 3, 1) := by decide +kernel
theorem dL_track_13 : decode cL_track 13 = .ok (.iconst 1, 1) := by decide +kernel
theorem dL_track_14 : decode cL_track 14 = .ok (.ireturn, 1) := by decide +kernel
theorem dL_track_18 : decode cL_track 18 = .ok (.iconst 0, 1) := by decide +kernel
theorem dL_track_19 : decode cL_track 19 = .ok (.ireturn, 1) := by decide +kernel
set_option maxRecDepth 20000 in
theorem ggL_speed_X6_speed : GoodIn wsL_speed wsX6_speed := goodIn_ca (goodIn_r _ [6, 7, 8, 9, 10, 11, 12, 13, 14, 15, 16] (by decide +kernel) (by decide +kernel)) (goodIn_sub (fun _ h => List.mem_cons_of_mem _ (List.mem_append_right _ h)) (by decide +kernel))
set_option maxRecDepth 20000 in
theorem gL_speed_X6_speed : GoodIn wsL_speed (wsV RL 17 RX6 yX6_speed wsX6_speed) := goodIn_app (goodIn_of _ (by decide +kernel)) ggL_speed_X6_speed
theorem dL_speed_0 : decode cL_speed 0 = .ok (.aload_n 2, 1) := by decide +kernel
theorem dL_speed_1 : decode cL_speed 1 = .ok (.iconst 0, 1) := by decide +kernel
theorem dL_speed_2 : decode cL_speed 2 = .ok (.aload_n 0, 1) := by decide +kernel
theorem dL_speed_3 : decode cL_speed 3 = .ok (.iload_n 1, 1) := by decide +kernel
theorem dL_speed_4 : decode cL_speed 4 = .ok (.invokevirtual 17, 3) := by decide +kernel
theorem dL_speed_7 : decode cL_speed 7 = .ok (.i2l, 1) := by decide +kernel
theorem dL_speed_8 : decode cL_speed 8 = .ok (.lastore, 1) := by decide +kernel
theorem dL_speed_9 : decode cL_speed 9 = .ok (.goto 6, 3) := by decide +kernel
theorem dL_speed_12 : decode cL_speed 12 = .ok (.astore_n 3, 1) := by decide +kernel
theorem dL_speed_13 : decode cL_speed 13 = .ok (.iconst 1, 1) := by decide +kernel
theorem dL_speed_14 : decode cL_speed 14 = .ok (.ireturn, 1) := by decide +kernel
theorem dL_speed_15 : decode cL_speed 15 = .ok (.iconst 0, 1) := by decide +kernel
theorem dL_speed_16 : decode cL_speed 16 = .ok (.ireturn, 1) := by decide +kernel
set_option maxRecDepth 20000 in
theorem ggL_write_X6_write : GoodIn wsL_write wsX6_write := goodIn_ca (goodIn_ca (goodIn_ca (goodIn_r _ [8, 9, 10, 11, 12, 13, 14, 15, 7, 16, 17, 18, 19, 20, 21, 22, 23, 24, 25, 26, 27, 28, 29, 30, 31, 32, 33, 34, 35, 36, 37, 38, 39, 40, 41, 42, 43, 44, 45, 46, 47, 48, 49, 50, 51, 52, 53, 54, 55, 56, 57, 58, 59, 60, 61, 62, 63, 64, 65, 66, 67, 68, 69, 70, 71, 72, 73, 74, 75, 76, 77, 78, 79, 80, 81, 82, 83, 84, 85] (by decide +kernel) (by decide +kernel)) (goodIn_sub (fun _ h => List.mem_cons_of_mem _ (List.mem_append_left _ (List.mem_append_left _ (List.mem_append_right _ h)))) (by decide +kernel))) (goodIn_sub (fun _ h => List.mem_cons_of_mem _ (List.mem_append_left _ (List.mem_append_right _ h))) (by decide +kernel))) (goodIn_sub (fun _ h => List.mem_cons_of_mem _ (List.mem_append_right _ h)) (by decide +kernel))
set_option maxRecDepth 20000 in
theorem gL_write_X6_write : GoodIn wsL_write (wsV RL 20 RX6 yX6_write wsX6_write) := goodIn_app (goodIn_of _ (by decide +kernel)) ggL_write_X6_write
theorem dL_write_0 : decode cL_write 0 = .ok (.aload_n 3, 1) := by decide +kernel
theorem dL_write_1 : decode cL_write 1 = .ok (.iconst 0, 1) := by decide +kernel
theorem dL_write_2 : decode cL_write 2 = .ok (.aload_n 0, 1) := by decide +kernel
theorem dL_write_3 : decode cL_write 3 = .ok (.iload_n 1, 1) := by decide +kernel
theorem dL_write_4 : decode cL_write 4 = .ok (.iload_n 2, 1) := by decide +kernel
theorem dL_write_5 : decode cL_write 5 = .ok (.invokevirtual 20, 3) := by decide +kernel
theorem dL_write_13 : decode cL_write 13 = .ok (.astore 4, 2) := by decide +kernel
theorem dL_write_15 : decode cL_write 15 = .ok (.iconst 1, 1) := by decide +kernel
theorem dL_write_16 : decode cL_write 16 = .ok (.ireturn, 1) := by decide +kernel
set_option maxRecDepth 20000 in
theorem ggL_mark_X6_mark : GoodIn wsL_mark wsX6_mark := goodIn_ca (goodIn_ca (goodIn_r _ [7, 8, 9, 10, 11, 12, 13, 6, 14, 15, 16, 17, 18, 19, 20, 21, 22, 23, 24, 25, 26, 27, 28, 29, 30, 31, 32, 33, 34, 35, 36, 37, 38, 39, 40, 41, 42, 43, 44, 45, 46, 47, 48, 49, 50, 51, 52, 53, 54, 55, 56, 57, 58, 59, 60, 61, 62, 63, 64, 65, 66, 67, 68, 69, 70] (by decide +kernel) (by decide +kernel)) (goodIn_sub (fun _ h => List.mem_cons_of_mem _ (List.mem_append_left _ (List.mem_append_right _ h))) (by decide +kernel))) (goodIn_sub (fun _ h => List.mem_cons_of_mem _ (List.mem_append_right _ h)) (by decide +kernel))
set_option maxRecDepth 20000 in
theorem gL_mark_X6_mark : GoodIn wsL_mark (wsV RL 26 RX6 yX6_mark wsX6_mark) := goodIn_app (goodIn_of _ (by decide +kernel)) ggL_mark_X6_mark
theorem dL_mark_0 : decode cL_mark 0 = .ok (.aload_n 2, 1) := by decide +kernel
theorem dL_mark_1 : decode cL_mark 1 = .ok (.iconst 0, 1) := by decide +kernel
theorem dL_mark_2 : decode cL_mark 2 = .ok (.aload_n 0, 1) := by decide +kernel
theorem dL_mark_3 : decode cL_mark 3 = .ok (.iload_n 1, 1) := by decide +kernel
theorem dL_mark_4 : decode cL_mark 4 = .ok (.invokevirtual 26, 3) := by decide +kernel
theorem dL_mark_12 : decode cL_mark 12 = .ok (.astore_n 3, 1) := by decide +kernel
theorem dL_mark_13 : decode cL_mark 13 = .ok (.iconst 1, 1) := by decide +kernel
theorem dL_mark_14 : decode cL_mark 14 = .ok (.ireturn, 1) := by decide +kernel
set_option maxRecDepth 20000 in
theorem ggL_sector_X6_sector : GoodIn wsL_sector wsX6_sector := goodIn_ca (goodIn_ca (goodIn_ca (goodIn_r _ [8, 9, 10, 11, 12, 13, 14, 15, 16, 17, 7, 18, 19, 20, 21, 22, 23, 24, 25, 26, 27, 28, 29, 30, 31, 32, 33, 34, 35, 36, 37, 38, 39, 40, 41, 42, 43, 44, 45, 46, 47, 48, 49, 50, 51, 52, 53, 54, 55, 56, 57, 58, 59, 60, 61, 62, 63, 64, 65, 66, 67, 68, 69, 70, 71, 72, 73, 74, 75, 76, 77, 78, 79, 80, 81, 82, 83, 84, 85, 86, 87, 88, 89, 90, 91, 92, 93, 94, 95, 96] (by decide +kernel) (by decide +kernel)) (goodIn_sub (fun _ h => List.mem_cons_of_mem _ (List.mem_append_left _ (List.mem_append_left _ (List.mem_append_right _ h)))) (by decide +kernel))) (goodIn_sub (fun _ h => List.mem_cons_of_mem _ (List.mem_append_left _ (List.mem_append_right _ h))) (by decide +kernel))) (goodIn_sub (fun _ h => List.mem_cons_of_mem _ (List.mem_append_right _ h)) (by decide +kernel))
set_option maxRecDepth 20000 in
theorem gL_sector_X6_sector : GoodIn wsL_sector (wsV RL 29 RX6 yX6_sector wsX6_sector) := goodIn_app (goodIn_of _ (by decide +kernel)) ggL_sector_X6_sector
theorem dL_sector_0 : decode cL_sector 0 = .ok (.aload 6, 2) := by decide +kernel
theorem dL_sector_2 : decode cL_sector 2 = .ok (.iconst 0, 1) := by decide +kernel
theorem dL_sector_3 : decode cL_sector 3 = .ok (.aload_n 0, 1) := by decide +kernel
theorem dL_sector_4 : decode cL_sector 4 = .ok (.iload_n 1, 1) := by decide +kernel
theorem dL_sector_5 : decode cL_sector 5 = .ok (.iload_n 2, 1) := by decide +kernel
theorem dL_sector_6 : decode cL_sector 6 = .ok (.iload_n 3, 1) := by decide +kernel
theorem dL_sector_7 : decode cL_sector 7 = .ok (.iload 4, 2) := by decide +kernel
theorem dL_sector_9 : decode cL_sector 9 = .ok (.iload 5, 2) := by decide +kernel
theorem dL_sector_11 : decode cL_sector 11 = .ok (.invokevirtual 29, 3) := by decide +kernel
theorem dL_sector_19 : decode cL_sector 19 = .ok (.astore 7, 2) := by decide +kernel
theorem dL_sector_21 : decode cL_sector 21 = .ok (.iconst 1, 1) := by decide +kernel
theorem dL_sector_22 : decode cL_sector 22 = .ok (.ireturn, 1) := by decide +kernel
set_option maxRecDepth 20000 in
theorem ggL_weak_X6_weak : GoodIn wsL_weak wsX6_weak := goodIn_ca (goodIn_r _ [6, 7, 8, 9, 10, 5, 11, 12, 13, 14, 15, 16, 17, 18, 19, 20, 21, 22, 23, 24, 25, 26, 27, 28, 29, 30, 31, 32, 33, 34, 35, 36, 37, 38, 39, 40, 41, 42, 43, 44, 45, 46, 47, 48, 49, 50, 51, 52, 53, 54, 55, 56, 57, 58] (by decide +kernel) (by decide +kernel)) (goodIn_sub (fun _ h => List.mem_cons_of_mem _ (List.mem_append_right _ h)) (by decide +kernel))
set_option maxRecDepth 20000 in
theorem gL_weak_X6_weak : GoodIn wsL_weak (wsV RL 33 RX6 yX6_weak wsX6_weak) := goodIn_app (goodIn_of _ (by decide +kernel)) ggL_weak_X6_weak
theorem dL_weak_0 : decode cL_weak 0 = .ok (.aload 4, 2) := by decide +kernel
theorem dL_weak_2 : decode cL_weak 2 = .ok (.iconst 0, 1) := by decide +kernel
theorem dL_weak_3 : decode cL_weak 3 = .ok (.aload_n 0, 1) := by decide +kernel
theorem dL_weak_4 : decode cL_weak 4 = .ok (.iload_n 1, 1) := by decide +kernel
theorem dL_weak_5 : decode cL_weak 5 = .ok (.iload_n 2, 1) := by decide +kernel
theorem dL_weak_6 : decode cL_weak 6 = .ok (.iload_n 3, 1) := by decide +kernel
theorem dL_weak_7 : decode cL_weak 7 = .ok (.invokevirtual 33, 3) := by decide +kernel
theorem dL_weak_22 : decode cL_weak 22 = .ok (.astore 5, 2) := by decide +kernel
theorem dL_weak_24 : decode cL_weak 24 = .ok (.iconst 1, 1) := by decide +kernel
theorem dL_weak_25 : decode cL_weak 25 = .ok (.ireturn, 1) := by decide +kernel
set_option maxRecDepth 20000 in
theorem ggL_dirt_X6_dirt : GoodIn wsL_dirt wsX6_dirt := goodIn_ca (goodIn_ca (goodIn_r _ [7, 8, 9, 10, 11, 12, 13, 6, 14, 15, 16, 17, 18, 19, 20, 21, 22, 23, 24, 25, 26, 27, 28, 29, 30, 31, 32, 33, 34, 35, 36, 37, 38, 39, 40, 41, 42, 43, 44, 45, 46, 47, 48, 49, 50, 51, 52, 53, 54, 55, 56, 57, 58, 59, 60, 61, 62, 63, 64, 65, 66, 67, 68, 69, 70, 71, 72, 73, 74, 75, 76, 77] (by decide +kernel) (by decide +kernel)) (goodIn_sub (fun _ h => List.mem_cons_of_mem _ (List.mem_append_left _ (List.mem_append_right _ h))) (by decide +kernel))) (goodIn_sub (fun _ h => List.mem_cons_of_mem _ (List.mem_append_right _ h)) (by decide +kernel))
set_option maxRecDepth 20000 in
theorem gL_dirt_X6_dirt : GoodIn wsL_dirt (wsV RL 37 RX6 yX6_dirt wsX6_dirt) := goodIn_app (goodIn_of _ (by decide +kernel)) ggL_dirt_X6_dirt
theorem dL_dirt_0 : decode cL_dirt 0 = .ok (.aload 4, 2) := by decide +kernel
theorem dL_dirt_2 : decode cL_dirt 2 = .ok (.iconst 0, 1) := by decide +kernel
theorem dL_dirt_3 : decode cL_dirt 3 = .ok (.aload_n 0, 1) := by decide +kernel
theorem dL_dirt_4 : decode cL_dirt 4 = .ok (.iload_n 1, 1) := by decide +kernel
theorem dL_dirt_5 : decode cL_dirt 5 = .ok (.iload_n 2, 1) := by decide +kernel
theorem dL_dirt_6 : decode cL_dirt 6 = .ok (.iload_n 3, 1) := by decide +kernel
theorem dL_dirt_7 : decode cL_dirt 7 = .ok (.invokevirtual 37, 3) := by decide +kernel
theorem dL_dirt_15 : decode cL_dirt 15 = .ok (.astore 5, 2) := by decide +kernel
theorem dL_dirt_17 : decode cL_dirt 17 = .ok (.iconst 1, 1) := by decide +kernel
theorem dL_dirt_18 : decode cL_dirt 18 = .ok (.ireturn, 1) := by decide +kernel
set_option maxRecDepth 20000 in
theorem ggL_clean_X6_clean : GoodIn wsL_clean wsX6_clean := goodIn_ca (goodIn_r _ [6, 7, 8, 9, 10, 5, 11, 12, 13, 14, 15, 16, 17, 18, 19, 20, 21, 22, 23, 24, 25, 26, 27, 28, 29, 30, 31, 32, 33, 34, 35, 36, 37, 38, 39, 40, 41, 42, 43, 44, 45, 46, 47, 48, 49, 50, 51, 52, 53, 54, 55, 56, 57, 58, 59, 60, 61, 62, 63, 64, 65, 66] (by decide +kernel) (by decide +kernel)) (goodIn_sub (fun _ h => List.mem_cons_of_mem _ (List.mem_append_right _ h)) (by decide +kernel))
set_option maxRecDepth 20000 in
theorem gL_clean_X6_clean : GoodIn wsL_clean (wsV RL 41 RX6 yX6_clean wsX6_clean) := goodIn_app (goodIn_of _ (by decide +kernel)) ggL_clean_X6_clean
theorem dL_clean_0 : decode cL_clean 0 = .ok (.aload_n 2, 1) := by decide +kernel
theorem dL_clean_1 : decode cL_clean 1 = .ok (.iconst 0, 1) := by decide +kernel
theorem dL_clean_2 : decode cL_clean 2 = .ok (.aload_n 0, 1) := by decide +kernel
theorem dL_clean_3 : decode cL_clean 3 = .ok (.iload_n 1, 1) := by decide +kernel
theorem dL_clean_4 : decode cL_clean 4 = .ok (.invokevirtual 41, 3) := by decide +kernel
theorem dL_clean_12 : decode cL_clean 12 = .ok (.astore_n 3, 1) := by decide +kernel
theorem dL_clean_13 : decode cL_clean 13 = .ok (.iconst 1, 1) := by decide +kernel
theorem dL_clean_14 : decode cL_clean 14 = .ok (.ireturn, 1) := by decide +kernel
set_option maxRecDepth 20000 in
theorem ggL_read_X6_read : GoodIn wsL_read wsX6_read := goodIn_ca (goodIn_ca (goodIn_r _ [7, 8, 9, 10, 11, 12, 13, 14, 15, 16, 17, 18, 6, 19, 20, 21, 22, 23, 24, 25, 26, 27, 28, 29, 30, 31, 32, 33, 34, 35, 36, 37, 38, 39, 40, 41, 42, 43, 44, 45, 46, 47, 48, 49, 50, 51, 52, 53, 54, 55, 56, 57, 58, 59, 60, 61, 62, 63, 64, 65, 66, 67, 68, 69, 70, 71, 72, 73, 74, 75, 76, 77, 78, 79, 80, 81, 82, 83, 84, 85, 86, 87, 88, 89, 90, 91, 92, 93, 94, 95, 96, 97, 98, 99, 100, 101, 102, 103, 104, 105, 106, 107, 108, 109, 110, 111, 112, 113, 114, 115, 116, 117, 118, 119, 120, 121, 122, 123, 124, 125, 126, 127, 128, 129, 130, 131, 132, 133, 134, 135, 136, 137, 138, 139, 140, 141, 142, 143, 144, 145, 146, 147, 148, 149, 150, 151, 152, 153, 154, 155, 156, 157, 158, 159, 160, 161, 162, 163, 164, 165, 166, 167, 168, 169, 170, 171, 172, 173, 174, 175, 176, 177, 178, 179, 180, 181, 182, 183, 184, 185, 186, 187, 188, 189, 190, 191, 192, 193, 194, 195, 196, 197, 198, 199, 200, 201, 202, 203, 204, 205, 206, 207, 208, 209, 210, 211, 212, 213, 214, 215, 216, 217, 218, 219, 220, 221, 222, 223, 224, 225, 226, 227, 228, 229, 230, 231, 232, 233, 234, 235, 236, 237, 238, 239, 240, 241, 242, 243, 244, 245, 246, 247, 248, 249, 250, 251, 252, 253, 254, 255] (by decide +kernel) (by decide +kernel)) (goodIn_sub (fun _ h => List.mem_cons_of_mem _ (List.mem_append_left _ (List.mem_append_right _ h))) (by decide +kernel))) (goodIn_sub (fun _ h => List.mem_cons_of_mem _ (List.mem_append_right _ h)) (by decide +kernel))
set_option maxRecDepth 20000 in
theorem gL_read_X6_read : GoodIn wsL_read (wsV RL 44 RX6 yX6_read wsX6_read) := goodIn_app (goodIn_of _ (by decide +kernel)) ggL_read_X6_read
theorem dL_read_0 : decode cL_read 0 = .ok (.aload_n 2, 1) := by decide +kernel
theorem dL_read_1 : decode cL_read 1 = .ok (.iconst 0, 1) := by decide +kernel
theorem dL_read_2 : decode cL_read 2 = .ok (.aload_n 0, 1) := by decide +kernel
theorem dL_read_3 : decode cL_read 3 = .ok (.iload_n 1, 1) := by decide +kernel
theorem dL_read_4 : decode cL_read 4 = .ok (.invokevirtual 44, 3) := by decide +kernel
theorem dL_read_12 : decode cL_read 12 = .ok (.astore_n 3, 1) := by decide +kernel
theorem dL_read_13 : decode cL_read 13 = .ok (.iconst 1, 1) := by decide +kernel
theorem dL_read_14 : decode cL_read 14 = .ok (.ireturn, 1) := by decide +kernel
set_option maxRecDepth 20000 in
theorem ggL_copy_X6_copy : GoodIn wsL_copy wsX6_copy := goodIn_ca (goodIn_ca (goodIn_ca (goodIn_r _ [8, 9, 10, 11, 12, 13, 14, 15, 16, 17, 18, 19, 20, 21, 22, 7, 23, 24, 25, 26, 27, 28, 29, 30, 31, 32, 33, 34, 35, 36, 37, 38, 39, 40, 41, 42, 43, 44, 45, 46, 47, 48, 49, 50, 51, 52, 53, 54, 55, 56, 57, 58, 59, 60, 61, 62, 63, 64, 65, 66, 67, 68, 69, 70, 71, 72, 73, 74, 75, 76, 77, 78, 79, 80, 81, 82, 83, 84, 85, 86, 87, 88, 89, 90, 91, 92, 93, 94, 95, 96, 97, 98, 99, 100, 101, 102, 103, 104, 105, 106, 107, 108, 109, 110, 111, 112, 113, 114, 115, 116, 117, 118, 119, 120, 121, 122, 123, 124, 125, 126, 127, 128, 129, 130, 131, 132, 133, 134, 135, 136, 137, 138, 139, 140, 141, 142, 143, 144, 145, 146, 147, 148, 149, 150, 151, 152, 153, 154, 155, 156, 157, 158, 159, 160, 161, 162, 163, 164, 165, 166, 167, 168, 169, 170, 171, 172, 173, 174, 175, 176, 177, 178, 179, 180, 181, 182, 183, 184, 185, 186, 187, 188, 189, 190, 191, 192, 193, 194, 195, 196, 197, 198, 199, 200, 201, 202, 203, 204, 205, 206, 207, 208, 209, 210, 211, 212, 213, 214, 215, 216, 217, 218, 219, 220, 221, 222, 223, 224, 225, 226, 227, 228, 229, 230, 231, 232, 233, 234, 235, 236, 237, 238, 239, 240, 241, 242, 243, 244, 245, 246, 247] (by decide +kernel) (by decide +kernel)) (goodIn_sub (fun _ h => List.mem_cons_of_mem _ (List.mem_append_left _ (List.mem_append_left _ (List.mem_append_right _ h)))) (by decide +kernel))) (goodIn_sub (fun _ h => List.mem_cons_of_mem _ (List.mem_append_left _ (List.mem_append_right _ h))) (by decide +kernel))) (goodIn_sub (fun _ h => List.mem_cons_of_mem _ (List.mem_append_right _ h)) (by decide +kernel))
set_option maxRecDepth 20000 in
theorem gL_copy_X6_copy : GoodIn wsL_copy (wsV RL 47 RX6 yX6_copy wsX6_copy) := goodIn_app (goodIn_of _ (by decide +kernel)) ggL_copy_X6_copy
theorem dL_copy_0 : decode cL_copy 0 = .ok (.aload 4, 2) := by decide +kernel
theorem dL_copy_2 : decode cL_copy 2 = .ok (.iconst 0, 1) := by decide +kernel
theorem dL_copy_3 : decode cL_copy 3 = .ok (.aload_n 0, 1) := by decide +kernel
theorem dL_copy_4 : decode cL_copy 4 = .ok (.iload_n 1, 1) := by decide +kernel
theorem dL_copy_5 : decode cL_copy 5 = .ok (.iload_n 2, 1) := by decide +kernel
theorem dL_copy_6 : decode cL_copy 6 = .ok (.iload_n 3, 1) := by decide +kernel
theorem dL_copy_7 : decode cL_copy 7 = .ok (.invokevirtual 47, 3) := by decide +kernel
theorem dL_copy_15 : decode cL_copy 15 = .ok (.astore 5, 2) := by decide +kernel
theorem dL_copy_17 : decode cL_copy 17 = .ok (.iconst 1, 1) := by decide +kernel
theorem dL_copy_18 : decode cL_copy 18 = .ok (.ireturn, 1) := by decide +kernel
set_option maxRecDepth 20000 in
theorem ggL_ofCell_X6_ofCell : GoodIn wsL_ofCell wsX6_ofCell := goodIn_ca (goodIn_ca (goodIn_r _ [7, 8, 9, 10, 11, 6, 12, 13, 14, 15, 16, 17, 18, 19, 20, 21, 22, 23, 24, 25, 26, 27, 28, 29, 30, 31, 32, 33, 34, 35, 36, 37, 38, 39, 40, 41, 42, 43, 44, 45, 46, 47, 48, 49, 50, 51, 52, 53, 54, 55, 56, 57, 58, 59, 60, 61, 62, 63, 64, 65, 66, 67, 68, 69, 70, 71, 72, 73, 74, 75, 76, 77, 78, 79] (by decide +kernel) (by decide +kernel)) (goodIn_sub (fun _ h => List.mem_cons_of_mem _ (List.mem_append_left _ (List.mem_append_right _ h))) (by decide +kernel))) (goodIn_sub (fun _ h => List.mem_cons_of_mem _ (List.mem_append_right _ h)) (by decide +kernel))
set_option maxRecDepth 20000 in
theorem gL_ofCell_X6_ofCell : GoodIn wsL_ofCell (wsV RL 51 RX6 yX6_ofCell wsX6_ofCell) := goodIn_app (goodIn_of _ (by decide +kernel)) ggL_ofCell_X6_ofCell
theorem dL_ofCell_0 : decode cL_ofCell 0 = .ok (.aload 4, 2) := by decide +kernel
theorem dL_ofCell_2 : decode cL_ofCell 2 = .ok (.iconst 0, 1) := by decide +kernel
theorem dL_ofCell_3 : decode cL_ofCell 3 = .ok (.aload_n 0, 1) := by decide +kernel
theorem dL_ofCell_4 : decode cL_ofCell 4 = .ok (.iload_n 1, 1) := by decide +kernel
theorem dL_ofCell_5 : decode cL_ofCell 5 = .ok (.iload_n 2, 1) := by decide +kernel
theorem dL_ofCell_6 : decode cL_ofCell 6 = .ok (.iload_n 3, 1) := by decide +kernel
theorem dL_ofCell_7 : decode cL_ofCell 7 = .ok (.invokevirtual 51, 3) := by decide +kernel
theorem dL_ofCell_15 : decode cL_ofCell 15 = .ok (.astore 5, 2) := by decide +kernel
theorem dL_ofCell_17 : decode cL_ofCell 17 = .ok (.iconst 1, 1) := by decide +kernel
theorem dL_ofCell_18 : decode cL_ofCell 18 = .ok (.ireturn, 1) := by decide +kernel
set_option maxRecDepth 20000 in
theorem ggL_ofTrack_X6_ofTrack : GoodIn wsL_ofTrack wsX6_ofTrack := goodIn_ca (goodIn_ca (goodIn_r _ [7, 8, 9, 10, 11, 12, 13, 14, 15, 16, 17, 18, 19, 20, 21, 22, 6, 23, 24, 25, 26, 27, 28, 29, 30, 31, 32, 33, 34, 35, 36, 37, 38, 39, 40, 41, 42, 43, 44, 45, 46, 47, 48, 49, 50, 51, 52, 53, 54, 55, 56, 57, 58, 59, 60, 61, 62, 63, 64, 65, 66, 67, 68, 69, 70, 71, 72, 73, 74, 75, 76, 77, 78, 79, 80, 81, 82, 83, 84, 85, 86, 87, 88, 89, 90, 91, 92, 93, 94, 95, 96, 97, 98, 99, 100, 101, 102, 103, 104, 105, 106, 107, 108, 109, 110, 111, 112, 113, 114, 115, 116, 117, 118] (by decide +kernel) (by decide +kernel)) (goodIn_sub (fun _ h => List.mem_cons_of_mem _ (List.mem_append_left _ (List.mem_append_right _ h))) (by decide +kernel))) (goodIn_sub (fun _ h => List.mem_cons_of_mem _ (List.mem_append_right _ h)) (by decide +kernel))
set_option maxRecDepth 20000 in
theorem gL_ofTrack_X6_ofTrack : GoodIn wsL_ofTrack (wsV RL 54 RX6 yX6_ofTrack wsX6_ofTrack) := goodIn_app (goodIn_of _ (by decide +kernel)) ggL_ofTrack_X6_ofTrack
theorem dL_ofTrack_0 : decode cL_ofTrack 0 = .ok (.aload_n 3, 1) := by decide +kernel
theorem dL_ofTrack_1 : decode cL_ofTrack 1 = .ok (.iconst 0, 1) := by decide +kernel
theorem dL_ofTrack_2 : decode cL_ofTrack 2 = .ok (.aload_n 0, 1) := by decide +kernel
theorem dL_ofTrack_3 : decode cL_ofTrack 3 = .ok (.iload_n 1, 1) := by decide +kernel
theorem dL_ofTrack_4 : decode cL_ofTrack 4 = .ok (.iload_n 2, 1) := by decide +kernel
theorem dL_ofTrack_5 : decode cL_ofTrack 5 = .ok (.invokevirtual 54, 3) := by decide +kernel
theorem dL_ofTrack_13 : decode cL_ofTrack 13 = .ok (.astore 4, 2) := by decide +kernel
theorem dL_ofTrack_15 : decode cL_ofTrack 15 = .ok (.iconst 1, 1) := by decide +kernel
theorem dL_ofTrack_16 : decode cL_ofTrack 16 = .ok (.ireturn, 1) := by decide +kernel
set_option maxRecDepth 20000 in
theorem ggL_vote_X6_vote : GoodIn wsL_vote wsX6_vote := goodIn_ca (goodIn_r _ [6, 7, 8, 9, 10, 11, 12, 13, 5, 14, 15, 16, 17, 18, 19, 20, 21, 22, 23, 24, 25, 26, 27, 28, 29, 30, 31, 32, 33, 34, 35, 36, 37, 38, 39, 40, 41, 42, 43, 44] (by decide +kernel) (by decide +kernel)) (goodIn_sub (fun _ h => List.mem_cons_of_mem _ (List.mem_append_right _ h)) (by decide +kernel))
set_option maxRecDepth 20000 in
theorem gL_vote_X6_vote : GoodIn wsL_vote (wsV RL 57 RX6 yX6_vote wsX6_vote) := goodIn_app (goodIn_of _ (by decide +kernel)) ggL_vote_X6_vote
theorem dL_vote_0 : decode cL_vote 0 = .ok (.aload_n 3, 1) := by decide +kernel
theorem dL_vote_1 : decode cL_vote 1 = .ok (.iconst 0, 1) := by decide +kernel
theorem dL_vote_2 : decode cL_vote 2 = .ok (.aload_n 0, 1) := by decide +kernel
theorem dL_vote_3 : decode cL_vote 3 = .ok (.iload_n 1, 1) := by decide +kernel
theorem dL_vote_4 : decode cL_vote 4 = .ok (.iload_n 2, 1) := by decide +kernel
theorem dL_vote_5 : decode cL_vote 5 = .ok (.invokevirtual 57, 3) := by decide +kernel
theorem dL_vote_13 : decode cL_vote 13 = .ok (.astore 4, 2) := by decide +kernel
theorem dL_vote_15 : decode cL_vote 15 = .ok (.iconst 1, 1) := by decide +kernel
theorem dL_vote_16 : decode cL_vote 16 = .ok (.ireturn, 1) := by decide +kernel
set_option maxRecDepth 20000 in
theorem ggL_turn_X6_turn : GoodIn wsL_turn wsX6_turn := goodIn_ca (goodIn_r _ [6, 7, 8, 9, 10, 11, 12, 5, 13, 14, 15, 16, 17, 18, 19, 20, 21, 22, 23, 24, 25, 26, 27, 28, 29, 30, 31, 32, 33, 34, 35, 36, 37, 38, 39, 40, 41, 42, 43, 44, 45, 46, 47, 48, 49, 50, 51, 52, 53, 54, 55, 56, 57, 58] (by decide +kernel) (by decide +kernel)) (goodIn_sub (fun _ h => List.mem_cons_of_mem _ (List.mem_append_right _ h)) (by decide +kernel))
set_option maxRecDepth 20000 in
theorem gL_turn_X6_turn : GoodIn wsL_turn (wsV RL 60 RX6 yX6_turn wsX6_turn) := goodIn_app (goodIn_of _ (by decide +kernel)) ggL_turn_X6_turn
theorem dL_turn_0 : decode cL_turn 0 = .ok (.aload 4, 2) := by decide +kernel
theorem dL_turn_2 : decode cL_turn 2 = .ok (.iconst 0, 1) := by decide +kernel
theorem dL_turn_3 : decode cL_turn 3 = .ok (.aload_n 0, 1) := by decide +kernel
theorem dL_turn_4 : decode cL_turn 4 = .ok (.iload_n 1, 1) := by decide +kernel
theorem dL_turn_5 : decode cL_turn 5 = .ok (.iload_n 2, 1) := by decide +kernel
theorem dL_turn_6 : decode cL_turn 6 = .ok (.iload_n 3, 1) := by decide +kernel
theorem dL_turn_7 : decode cL_turn 7 = .ok (.invokevirtual 60, 3) := by decide +kernel
theorem dL_turn_15 : decode cL_turn 15 = .ok (.astore 5, 2) := by decide +kernel
theorem dL_turn_17 : decode cL_turn 17 = .ok (.iconst 1, 1) := by decide +kernel
theorem dL_turn_18 : decode cL_turn 18 = .ok (.ireturn, 1) := by decide +kernel
set_option maxRecDepth 20000 in
theorem ggL_period_X6_period : GoodIn wsL_period wsX6_period := goodIn_ca (goodIn_r _ [6, 7, 8, 9, 10, 5, 11, 12, 13, 14, 15, 16, 17, 18, 19, 20, 21, 22, 23, 24, 25, 26, 27, 28, 29, 30, 31, 32, 33, 34, 35, 36, 37, 38, 39, 40, 41, 42, 43, 44, 45, 46, 47, 48, 49, 50, 51, 52, 53] (by decide +kernel) (by decide +kernel)) (goodIn_sub (fun _ h => List.mem_cons_of_mem _ (List.mem_append_right _ h)) (by decide +kernel))
set_option maxRecDepth 20000 in
theorem gL_period_X6_period : GoodIn wsL_period (wsV RL 63 RX6 yX6_period wsX6_period) := goodIn_app (goodIn_of _ (by decide +kernel)) ggL_period_X6_period
theorem dL_period_0 : decode cL_period 0 = .ok (.aload_n 3, 1) := by decide +kernel
theorem dL_period_1 : decode cL_period 1 = .ok (.iconst 0, 1) := by decide +kernel
theorem dL_period_2 : decode cL_period 2 = .ok (.aload_n 0, 1) := by decide +kernel
theorem dL_period_3 : decode cL_period 3 = .ok (.iload_n 1, 1) := by decide +kernel
theorem dL_period_4 : decode cL_period 4 = .ok (.iload_n 2, 1) := by decide +kernel
theorem dL_period_5 : decode cL_period 5 = .ok (.invokevirtual 63, 3) := by decide +kernel
theorem dL_period_12 : decode cL_period 12 = .ok (.astore 4, 2) := by decide +kernel
theorem dL_period_14 : decode cL_period 14 = .ok (.iconst 1, 1) := by decide +kernel
theorem dL_period_15 : decode cL_period 15 = .ok (.ireturn, 1) := by decide +kernel
set_option maxRecDepth 20000 in
theorem ggL_ofSector_X6_ofSector : GoodIn wsL_ofSector wsX6_ofSector := goodIn_ca (goodIn_ca (goodIn_r _ [7, 8, 9, 10, 11, 12, 13, 6, 14, 15, 16, 17, 18, 19, 20, 21, 22, 23, 24, 25, 26, 27, 28, 29, 30, 31, 32, 33, 34, 35, 36, 37, 38, 39, 40, 41, 42, 43, 44, 45, 46, 47, 48, 49, 50, 51, 52, 53, 54, 55, 56, 57, 58, 59, 60, 61, 62, 63, 64, 65, 66] (by decide +kernel) (by decide +kernel)) (goodIn_sub (fun _ h => List.mem_cons_of_mem _ (List.mem_append_left _ (List.mem_append_right _ h))) (by decide +kernel))) (goodIn_sub (fun _ h => List.mem_cons_of_mem _ (List.mem_append_right _ h)) (by decide +kernel))
set_option maxRecDepth 20000 in
theorem gL_ofSector_X6_ofSector : GoodIn wsL_ofSector (wsV RL 67 RX6 yX6_ofSector wsX6_ofSector) := goodIn_app (goodIn_of _ (by decide +kernel)) ggL_ofSector_X6_ofSector
theorem dL_ofSector_0 : decode cL_ofSector 0 = .ok (.aload 4, 2) := by decide +kernel
theorem dL_ofSector_2 : decode cL_ofSector 2 = .ok (.iconst 0, 1) := by decide +kernel
theorem dL_ofSector_3 : decode cL_ofSector 3 = .ok (.aload_n 0, 1) := by decide +kernel
theorem dL_ofSector_4 : decode cL_ofSector 4 = .ok (.iload_n 1, 1) := by decide +kernel
theorem dL_ofSector_5 : decode cL_ofSector 5 = .ok (.iload_n 2, 1) := by decide +kernel
theorem dL_ofSector_6 : decode cL_ofSector 6 = .ok (.iload_n 3, 1) := by decide +kernel
theorem dL_ofSector_7 : decode cL_ofSector 7 = .ok (.invokevirtual 67, 3) := by decide +kernel
theorem dL_ofSector_15 : decode cL_ofSector 15 = .ok (.astore 5, 2) := by decide +kernel
theorem dL_ofSector_17 : decode cL_ofSector 17 = .ok (.iconst 1, 1) := by decide +kernel
theorem dL_ofSector_18 : decode cL_ofSector 18 = .ok (.ireturn, 1) := by decide +kernel
set_option maxRecDepth 20000 in
theorem ggL_chain_X6_chain : GoodIn wsL_chain wsX6_chain := goodIn_ca (goodIn_ca (goodIn_r _ [7, 8, 9, 10, 6, 11, 12, 13, 14, 15, 16, 17, 18, 19, 20, 21, 22, 23, 24, 25, 26, 27, 28, 29, 30, 31, 32, 33, 34, 35, 36, 37, 38, 39, 40, 41, 42, 43, 44, 45, 46, 47, 48, 49, 50, 51, 52, 53, 54, 55, 56, 57, 58, 59, 60, 61, 62, 63, 64, 65, 66, 67, 68, 69, 70, 71, 72, 73, 74] (by decide +kernel) (by decide +kernel)) (goodIn_sub (fun _ h => List.mem_cons_of_mem _ (List.mem_append_left _ (List.mem_append_right _ h))) (by decide +kernel))) (goodIn_sub (fun _ h => List.mem_cons_of_mem _ (List.mem_append_right _ h)) (by decide +kernel))
set_option maxRecDepth 20000 in
theorem gL_chain_X6_chain : GoodIn wsL_chain (wsV RL 70 RX6 yX6_chain wsX6_chain) := goodIn_app (goodIn_of _ (by decide +kernel)) ggL_chain_X6_chain
theorem dL_chain_0 : decode cL_chain 0 = .ok (.aload_n 3, 1) := by decide +kernel
theorem dL_chain_1 : decode cL_chain 1 = .ok (.iconst 0, 1) := by decide +kernel
theorem dL_chain_2 : decode cL_chain 2 = .ok (.aload_n 0, 1) := by decide +kernel
theorem dL_chain_3 : decode cL_chain 3 = .ok (.iload_n 1, 1) := by decide +kernel
theorem dL_chain_4 : decode cL_chain 4 = .ok (.iload_n 2, 1) := by decide +kernel
theorem dL_chain_5 : decode cL_chain 5 = .ok (.invokevirtual 70, 3) := by decide +kernel
theorem dL_chain_13 : decode cL_chain 13 = .ok (.astore 4, 2) := by decide +kernel
theorem dL_chain_15 : decode cL_chain 15 = .ok (.iconst 1, 1) := by decide +kernel
theorem dL_chain_16 : decode cL_chain 16 = .ok (.ireturn, 1) := by decide +kernel
set_option maxRecDepth 20000 in
theorem ggL_many_X6_many : GoodIn wsL_many wsX6_many := goodIn_ca (goodIn_ca (goodIn_r _ [6, 7, 8, 9, 10, 11, 12, 13, 14, 5, 15, 16, 17, 18, 19, 20, 21, 22, 23, 24, 25, 26, 27, 28, 29, 30, 31, 32, 33, 34, 35, 36, 37, 38, 39, 40, 41, 42, 43, 44, 45, 46, 47, 48, 49, 50, 51, 52, 53, 54, 55, 56, 57, 58, 59, 60, 61, 62, 63, 64, 65, 66, 67, 68, 69, 70, 71, 72, 73] (by decide +kernel) (by decide +kernel)) (goodIn_sub (fun _ h => List.mem_cons_of_mem _ (List.mem_append_left _ (List.mem_append_right _ h))) (by decide +kernel))) (goodIn_sub (fun _ h => List.mem_cons_of_mem _ (List.mem_append_right _ h)) (by decide +kernel))
set_option maxRecDepth 20000 in
theorem gL_many_X6_many : GoodIn wsL_many (wsV RL 73 RX6 yX6_many wsX6_many) := goodIn_app (goodIn_of _ (by decide +kernel)) ggL_many_X6_many
theorem dL_many_0 : decode cL_many 0 = .ok (.aload_n 2, 1) := by decide +kernel
theorem dL_many_1 : decode cL_many 1 = .ok (.iconst 0, 1) := by decide +kernel
theorem dL_many_2 : decode cL_many 2 = .ok (.aload_n 0, 1) := by decide +kernel
theorem dL_many_3 : decode cL_many 3 = .ok (.iload_n 1, 1) := by decide +kernel
theorem dL_many_4 : decode cL_many 4 = .ok (.invokevirtual 73, 3) := by decide +kernel
theorem dL_many_7 : decode cL_many 7 = .ok (.i2l, 1) := by decide +kernel
theorem dL_many_8 : decode cL_many 8 = .ok (.lastore, 1) := by decide +kernel
theorem dL_many_9 : decode cL_many 9 = .ok (.goto 6, 3) := by decide +kernel
theorem dL_many_12 : decode cL_many 12 = .ok (.astore_n 3, 1) := by decide +kernel
theorem dL_many_13 : decode cL_many 13 = .ok (.iconst 1, 1) := by decide +kernel
theorem dL_many_14 : decode cL_many 14 = .ok (.ireturn, 1) := by decide +kernel
theorem dL_many_15 : decode cL_many 15 = .ok (.iconst 0, 1) := by decide +kernel
theorem dL_many_16 : decode cL_many 16 = .ok (.ireturn, 1) := by decide +kernel
set_option maxRecDepth 20000 in
theorem ggL_sure_X6_sure : GoodIn wsL_sure wsX6_sure := goodIn_ca (goodIn_r _ [6, 7, 8, 9, 10, 11, 12, 13, 5, 14, 15, 16, 17, 18, 19, 20, 21, 22, 23, 24, 25, 26, 27, 28, 29, 30, 31, 32, 33, 34, 35, 36, 37, 38, 39] (by decide +kernel) (by decide +kernel)) (goodIn_sub (fun _ h => List.mem_cons_of_mem _ (List.mem_append_right _ h)) (by decide +kernel))
set_option maxRecDepth 20000 in
theorem gL_sure_X6_sure : GoodIn wsL_sure (wsV RL 76 RX6 yX6_sure wsX6_sure) := goodIn_app (goodIn_of _ (by decide +kernel)) ggL_sure_X6_sure
theorem dL_sure_0 : decode cL_sure 0 = .ok (.aload_n 2, 1) := by decide +kernel
theorem dL_sure_1 : decode cL_sure 1 = .ok (.iconst 0, 1) := by decide +kernel
theorem dL_sure_2 : decode cL_sure 2 = .ok (.aload_n 0, 1) := by decide +kernel
theorem dL_sure_3 : decode cL_sure 3 = .ok (.iload_n 1, 1) := by decide +kernel
theorem dL_sure_4 : decode cL_sure 4 = .ok (.invokevirtual 76, 3) := by decide +kernel
theorem dL_sure_11 : decode cL_sure 11 = .ok (.astore_n 3, 1) := by decide +kernel
theorem dL_sure_12 : decode cL_sure 12 = .ok (.iconst 1, 1) := by decide +kernel
theorem dL_sure_13 : decode cL_sure 13 = .ok (.ireturn, 1) := by decide +kernel
set_option maxRecDepth 20000 in
theorem ggL_plainLong_X6_plainLong : GoodIn wsL_plainLong wsX6_plainLong := goodIn_ca (goodIn_r _ [6, 7, 8, 9, 10, 5, 11, 12, 13, 14, 15, 16, 17, 18, 19, 20, 21, 22, 23, 24, 25, 26, 27, 28, 29, 30, 31, 32, 33, 34, 35, 36, 37, 38, 39, 40, 41, 42, 43, 44, 45, 46, 47, 48, 49, 50, 51, 52, 53, 54] (by decide +kernel) (by decide +kernel)) (goodIn_sub (fun _ h => List.mem_cons_of_mem _ (List.mem_append_right _ h)) (by decide +kernel))
set_option maxRecDepth 20000 in
theorem gL_plainLong_X6_plainLong : GoodIn wsL_plainLong (wsV RL 80 RX6 yX6_plainLong wsX6_plainLong) := goodIn_app (goodIn_of _ (by decide +kernel)) ggL_plainLong_X6_plainLong
theorem dL_plainLong_0 : decode cL_plainLong 0 = .ok (.aload_n 2, 1) := by decide +kernel
theorem dL_plainLong_1 : decode cL_plainLong 1 = .ok (.iconst 0, 1) := by decide +kernel
theorem dL_plainLong_2 : decode cL_plainLong 2 = .ok (.aload_n 0, 1) := by decide +kernel
theorem dL_plainLong_3 : decode cL_plainLong 3 = .ok (.iload_n 1, 1) := by decide +kernel
theorem dL_plainLong_4 : decode cL_plainLong 4 = .ok (.invokevirtual 80, 3) := by decide +kernel
theorem dL_plainLong_12 : decode cL_plainLong 12 = .ok (.astore_n 3, 1) := by decide +kernel
theorem dL_plainLong_13 : decode cL_plainLong 13 = .ok (.iconst 1, 1) := by decide +kernel
theorem dL_plainLong_14 : decode cL_plainLong 14 = .ok (.ireturn, 1) := by decide +kernel
set_option maxRecDepth 20000 in
theorem ggL_wouldLose_X6_wouldLose : GoodIn wsL_wouldLose wsX6_wouldLose := goodIn_ca (goodIn_r _ [6, 7, 8, 9, 10, 5, 11, 12, 13, 14, 15, 16, 17, 18, 19, 20, 21, 22, 23, 24, 25, 26, 27, 28, 29, 30, 31, 32, 33, 34, 35, 36, 37, 38, 39, 40, 41, 42, 43, 44, 45, 46, 47, 48, 49, 50, 51, 52, 53, 54, 55, 56, 57, 58, 59, 60, 61, 62, 63, 64, 65, 66, 67, 68, 69, 70, 71, 72, 73, 74, 75, 76, 77, 78, 79, 80] (by decide +kernel) (by decide +kernel)) (goodIn_sub (fun _ h => List.mem_cons_of_mem _ (List.mem_append_right _ h)) (by decide +kernel))
set_option maxRecDepth 20000 in
theorem gL_wouldLose_X6_wouldLose : GoodIn wsL_wouldLose (wsV RL 83 RX6 yX6_wouldLose wsX6_wouldLose) := goodIn_app (goodIn_of _ (by decide +kernel)) ggL_wouldLose_X6_wouldLose
theorem dL_wouldLose_0 : decode cL_wouldLose 0 = .ok (.aload_n 2, 1) := by decide +kernel
theorem dL_wouldLose_1 : decode cL_wouldLose 1 = .ok (.iconst 0, 1) := by decide +kernel
theorem dL_wouldLose_2 : decode cL_wouldLose 2 = .ok (.aload_n 0, 1) := by decide +kernel
theorem dL_wouldLose_3 : decode cL_wouldLose 3 = .ok (.iload_n 1, 1) := by decide +kernel
theorem dL_wouldLose_4 : decode cL_wouldLose 4 = .ok (.invokevirtual 83, 3) := by decide +kernel
theorem dL_wouldLose_12 : decode cL_wouldLose 12 = .ok (.astore_n 3, 1) := by decide +kernel
theorem dL_wouldLose_13 : decode cL_wouldLose 13 = .ok (.iconst 1, 1) := by decide +kernel
theorem dL_wouldLose_14 : decode cL_wouldLose 14 = .ok (.ireturn, 1) := by decide +kernel
set_option maxRecDepth 20000 in
theorem ggL_goodBy_X6_goodBy : GoodIn wsL_goodBy wsX6_goodBy := goodIn_ca (goodIn_ca (goodIn_r _ [7, 8, 9, 10, 11, 6, 12, 13, 14, 15, 16, 17, 18, 19, 20, 21, 22, 23, 24, 25, 26, 27, 28, 29, 30, 31, 32, 33, 34, 35, 36, 37, 38, 39, 40, 41, 42, 43, 44, 45, 46, 47, 48, 49, 50, 51, 52, 53, 54, 55] (by decide +kernel) (by decide +kernel)) (goodIn_sub (fun _ h => List.mem_cons_of_mem _ (List.mem_append_left _ (List.mem_append_right _ h))) (by decide +kernel))) (goodIn_sub (fun _ h => List.mem_cons_of_mem _ (List.mem_append_right _ h)) (by decide +kernel))
set_option maxRecDepth 20000 in
theorem gL_goodBy_X6_goodBy : GoodIn wsL_goodBy (wsV RL 86 RX6 yX6_goodBy wsX6_goodBy) := goodIn_app (goodIn_of _ (by decide +kernel)) ggL_goodBy_X6_goodBy
theorem dL_goodBy_0 : decode cL_goodBy 0 = .ok (.aload_n 3, 1) := by decide +kernel
theorem dL_goodBy_1 : decode cL_goodBy 1 = .ok (.iconst 0, 1) := by decide +kernel
theorem dL_goodBy_2 : decode cL_goodBy 2 = .ok (.aload_n 0, 1) := by decide +kernel
theorem dL_goodBy_3 : decode cL_goodBy 3 = .ok (.iload_n 1, 1) := by decide +kernel
theorem dL_goodBy_4 : decode cL_goodBy 4 = .ok (.iload_n 2, 1) := by decide +kernel
theorem dL_goodBy_5 : decode cL_goodBy 5 = .ok (.invokevirtual 86, 3) := by decide +kernel
theorem dL_goodBy_13 : decode cL_goodBy 13 = .ok (.astore 4, 2) := by decide +kernel
theorem dL_goodBy_15 : decode cL_goodBy 15 = .ok (.iconst 1, 1) := by decide +kernel
theorem dL_goodBy_16 : decode cL_goodBy 16 = .ok (.ireturn, 1) := by decide +kernel
set_option maxRecDepth 20000 in
theorem ggL_law_X6_init : GoodIn wsL_law wsX6_init := goodIn_r _ [10, 11, 12, 13, 14, 15, 16, 17, 18, 19, 20, 21, 1094, 1095, 1096, 1097, 1098, 1099, 1100] (by decide +kernel) (by decide +kernel)
set_option maxRecDepth 20000 in
theorem gL_law_X6_init : GoodIn wsL_law (wsX6_init) := ggL_law_X6_init
set_option maxRecDepth 20000 in
theorem ggL_law_X10_init : GoodIn wsL_law wsX10_init := goodIn_r _ [24, 25, 12, 13, 26, 27, 28, 29, 30, 31, 32, 33, 34, 35, 36, 37, 38, 39, 40, 41, 42, 43, 44, 45, 1109, 1110, 1111, 1101, 1102, 1103, 1104, 1105, 1106, 1107, 1108] (by decide +kernel) (by decide +kernel)
set_option maxRecDepth 20000 in
theorem gL_law_X10_init : GoodIn wsL_law (wsX10_init) := ggL_law_X10_init
set_option maxRecDepth 20000 in
theorem ggL_law_L_track : GoodIn wsL_law wsL_track := goodIn_ca (goodIn_ca (goodIn_r _ [49, 50, 51, 52, 53, 54, 2, 55, 56, 57, 16, 15, 14, 58, 59, 60, 61, 62, 63, 64, 65, 66, 67, 68, 12, 13, 69, 70, 71, 72, 73, 74, 75, 76, 77, 78, 79, 80, 81, 82, 83, 84, 85, 86, 87, 88, 89, 90, 91, 92, 93, 94, 95, 96, 97, 98, 99, 100, 101, 102, 103, 104, 105, 106, 107, 108, 109, 110, 111, 112, 113, 114, 115, 116, 117, 118, 119, 120, 121, 122, 123, 124, 125, 126, 127, 128, 129, 1094, 1095, 1096, 1097, 1098, 1099, 1100, 1112, 1113, 1114, 1115, 1116, 1117, 1118, 1119, 1120, 1121, 1122, 1123, 1124, 1125, 1126, 1127, 1128, 1129, 1130, 1131, 1132, 1133, 1134, 1135, 1136, 1137, 1138, 1139, 1140, 1141, 1142, 1143] (by decide +kernel) (by decide +kernel)) (goodIn_sub (fun _ h => List.mem_append_left _ (List.mem_append_left _ (List.mem_append_right _ h))) (by decide +kernel))) (goodIn_sub (fun _ h => List.mem_append_left _ (List.mem_append_right _ h)) (by decide +kernel))
set_option maxRecDepth 20000 in
theorem gL_law_L_track : GoodIn wsL_law (va_wsS RL 93 yL_track wsL_track) := goodIn_app (goodIn_of _ (by decide +kernel)) ggL_law_L_track
set_option maxRecDepth 20000 in
theorem ggL_law_X10_track : GoodIn wsL_law wsX10_track := goodIn_r _ [133, 134, 29, 135, 136, 137, 138, 139, 5, 140, 141, 142, 143, 144, 145, 146, 147, 28, 148, 149, 150, 151, 152, 153, 12, 13, 96, 154, 155, 156, 99, 157, 158, 159, 160, 27, 161, 162, 163, 32, 33, 34, 35, 36, 37, 38, 39, 40, 41, 42, 43, 44, 45, 164, 165, 166, 167, 168, 169, 170, 171, 172, 173, 174, 175, 176, 177, 178, 179, 180, 181, 182, 183, 184, 185, 186, 187, 188, 189, 190, 191, 192, 193, 194, 195, 196, 197, 198, 199, 200, 201, 202, 203, 204, 205, 206, 207, 208, 209, 210, 211, 212, 213, 214, 215, 1101, 1102, 1103, 1104, 1105, 1106, 1107, 1108, 1144, 1145, 1146, 1147, 1148, 1149, 1150, 1151, 1152, 1153, 1154, 1109, 1110, 1111] (by decide +kernel) (by decide +kernel)
set_option maxRecDepth 20000 in
theorem gL_law_X10_track : GoodIn wsL_law (wsV RL 98 RX10 yX10_track wsX10_track) := goodIn_app (goodIn_of _ (by decide +kernel)) ggL_law_X10_track
set_option maxRecDepth 20000 in
theorem ggL_law_X10_thrown : GoodIn wsL_law wsX10_thrown := goodIn_r _ [219, 134, 1101, 1102, 1103, 1104, 1105, 1106, 1107, 1108] (by decide +kernel) (by decide +kernel)
set_option maxRecDepth 20000 in
theorem gL_law_X10_thrown : GoodIn wsL_law (wsV RL 99 RX10 yX10_thrown wsX10_thrown) := goodIn_app (goodIn_of _ (by decide +kernel)) ggL_law_X10_thrown
set_option maxRecDepth 20000 in
theorem ggL_law_L_speed : GoodIn wsL_law wsL_speed := goodIn_ca (goodIn_r _ [222, 50, 223, 224, 225, 2, 226, 63, 64, 17, 1094, 1095, 1096, 1097, 1098, 1099, 1100] (by decide +kernel) (by decide +kernel)) (goodIn_sub (fun _ h => List.mem_append_left _ (List.mem_append_right _ h)) (by decide +kernel))
set_option maxRecDepth 20000 in
theorem gL_law_L_speed : GoodIn wsL_law (va_wsS RL 103 yL_speed wsL_speed) := goodIn_app (goodIn_of _ (by decide +kernel)) ggL_law_L_speed
set_option maxRecDepth 20000 in
theorem ggL_law_X10_speed : GoodIn wsL_law wsX10_speed := goodIn_r _ [230, 134, 30, 138, 139, 5, 140, 141, 142, 143, 144, 1101, 1102, 1103, 1104, 1105, 1106, 1107, 1108] (by decide +kernel) (by decide +kernel)
set_option maxRecDepth 20000 in
theorem gL_law_X10_speed : GoodIn wsL_law (wsV RL 105 RX10 yX10_speed wsX10_speed) := goodIn_app (goodIn_of _ (by decide +kernel)) ggL_law_X10_speed
set_option maxRecDepth 20000 in
theorem ggL_law_L_write : GoodIn wsL_law wsL_write := goodIn_ca (goodIn_ca (goodIn_ca (goodIn_r _ [233, 234, 50, 51, 235, 236, 237, 2, 238, 239, 240, 17, 241, 242, 243, 244, 245, 246, 247, 15, 248, 249, 250, 63, 64, 251, 252, 253, 254, 255, 256, 257, 56, 57, 258, 259, 260, 71, 261, 102, 262, 263, 264, 265, 103, 266, 267, 268, 269, 270, 271, 272, 273, 274, 275, 276, 277, 97, 98, 100, 101, 1112, 1113, 1114, 1115, 1116, 1117, 1118, 1119, 1120, 1121, 1122, 1123, 1094, 1095, 1096, 1097, 1098, 1099, 1100, 1124, 1125, 1126, 1127, 1128, 1129] (by decide +kernel) (by decide +kernel)) (goodIn_sub (fun _ h => List.mem_append_right _ h) (by decide +kernel))) (goodIn_sub (fun _ h => List.mem_append_left _ (List.mem_append_right _ h)) (by decide +kernel))) (goodIn_sub (fun _ h => List.mem_append_left _ (List.mem_append_left _ (List.mem_append_right _ h))) (by decide +kernel))
set_option maxRecDepth 20000 in
theorem gL_law_L_write : GoodIn wsL_law (va_wsS RL 106 yL_write wsL_write) := goodIn_app (goodIn_of _ (by decide +kernel)) ggL_law_L_write
set_option maxRecDepth 20000 in
theorem ggL_law_X10_write : GoodIn wsL_law wsX10_write := goodIn_r _ [281, 134, 29, 282, 30, 283, 284, 285, 5, 286, 145, 146, 147, 28, 148, 149, 138, 139, 140, 141, 142, 143, 144, 287, 288, 289, 290, 291, 292, 293, 294, 295, 296, 297, 298, 299, 300, 301, 302, 35, 303, 304, 305, 137, 306, 162, 307, 308, 309, 310, 154, 311, 312, 313, 314, 315, 155, 316, 156, 157, 158, 159, 1101, 1102, 1103, 1104, 1105, 1106, 1107, 1108, 1144, 1145, 1146, 1147, 1148, 1149, 1150, 1151, 1152, 1153, 1154, 1109, 1110, 1111] (by decide +kernel) (by decide +kernel)
set_option maxRecDepth 20000 in
theorem gL_law_X10_write : GoodIn wsL_law (wsV RL 109 RX10 yX10_write wsX10_write) := goodIn_app (goodIn_of _ (by decide +kernel)) ggL_law_X10_write
set_option maxRecDepth 20000 in
theorem ggL_law_L_mark : GoodIn wsL_law wsL_mark := goodIn_ca (goodIn_ca (goodIn_r _ [319, 234, 51, 320, 321, 322, 2, 323, 240, 17, 241, 242, 243, 244, 245, 246, 247, 15, 255, 256, 257, 56, 57, 258, 259, 260, 71, 261, 102, 324, 325, 326, 327, 103, 270, 271, 272, 273, 274, 275, 276, 277, 97, 98, 100, 101, 1112, 1113, 1114, 1115, 1116, 1117, 1118, 1119, 1120, 1121, 1122, 1123, 1094, 1095, 1096, 1097, 1098, 1099, 1100, 1124, 1125, 1126, 1127, 1128, 1129] (by decide +kernel) (by decide +kernel)) (goodIn_sub (fun _ h => List.mem_append_right _ h) (by decide +kernel))) (goodIn_sub (fun _ h => List.mem_append_left _ (List.mem_append_left _ (List.mem_append_right _ h))) (by decide +kernel))
set_option maxRecDepth 20000 in
theorem gL_law_L_mark : GoodIn wsL_law (va_wsS RL 110 yL_mark wsL_mark) := goodIn_app (goodIn_of _ (by decide +kernel)) ggL_law_L_mark
set_option maxRecDepth 20000 in
theorem ggL_law_X10_mark : GoodIn wsL_law wsX10_mark := goodIn_r _ [331, 134, 29, 282, 30, 283, 284, 285, 5, 286, 145, 146, 147, 28, 148, 149, 138, 139, 140, 141, 142, 143, 144, 287, 288, 289, 290, 291, 292, 293, 294, 295, 296, 297, 298, 299, 300, 301, 302, 35, 332, 333, 334, 137, 335, 311, 312, 313, 314, 315, 155, 316, 156, 157, 158, 159, 1101, 1102, 1103, 1104, 1105, 1106, 1107, 1108, 1144, 1145, 1146, 1147, 1148, 1149, 1150, 1151, 1152, 1153, 1154, 1109, 1110, 1111] (by decide +kernel) (by decide +kernel)
set_option maxRecDepth 20000 in
theorem gL_law_X10_mark : GoodIn wsL_law (wsV RL 112 RX10 yX10_mark wsX10_mark) := goodIn_app (goodIn_of _ (by decide +kernel)) ggL_law_X10_mark
set_option maxRecDepth 20000 in
theorem ggL_law_L_sector : GoodIn wsL_law wsL_sector := goodIn_ca (goodIn_ca (goodIn_ca (goodIn_r _ [338, 234, 50, 51, 339, 340, 341, 2, 342, 63, 64, 239, 240, 17, 241, 242, 243, 244, 245, 246, 247, 15, 248, 249, 250, 343, 344, 253, 345, 346, 252, 254, 255, 256, 257, 56, 57, 258, 259, 260, 71, 261, 102, 347, 348, 349, 350, 351, 325, 326, 327, 103, 270, 271, 272, 273, 274, 275, 276, 277, 97, 98, 100, 101, 352, 263, 264, 265, 266, 267, 268, 269, 1112, 1113, 1114, 1115, 1116, 1117, 1118, 1119, 1120, 1121, 1122, 1123, 1094, 1095, 1096, 1097, 1098, 1099, 1100, 1124, 1125, 1126, 1127, 1128, 1129] (by decide +kernel) (by decide +kernel)) (goodIn_sub (fun _ h => List.mem_append_left _ (List.mem_append_right _ h)) (by decide +kernel))) (goodIn_sub (fun _ h => List.mem_append_right _ h) (by decide +kernel))) (goodIn_sub (fun _ h => List.mem_append_left _ (List.mem_append_left _ (List.mem_append_right _ h))) (by decide +kernel))
set_option maxRecDepth 20000 in
theorem gL_law_L_sector : GoodIn wsL_law (va_wsS RL 113 yL_sector wsL_sector) := goodIn_app (goodIn_of _ (by decide +kernel)) ggL_law_L_sector
set_option maxRecDepth 20000 in
theorem ggL_law_X10_sector : GoodIn wsL_law wsX10_sector := goodIn_r _ [356, 134, 29, 282, 96, 357, 358, 30, 283, 284, 285, 5, 286, 145, 146, 147, 28, 148, 149, 138, 139, 140, 141, 142, 143, 144, 287, 288, 289, 290, 291, 292, 293, 294, 295, 296, 297, 298, 299, 300, 301, 302, 35, 359, 360, 361, 137, 362, 363, 304, 305, 306, 162, 364, 365, 366, 367, 368, 333, 334, 335, 311, 312, 313, 314, 315, 155, 316, 156, 157, 158, 159, 369, 308, 309, 310, 154, 1101, 1102, 1103, 1104, 1105, 1106, 1107, 1108, 1144, 1145, 1146, 1147, 1148, 1149, 1150, 1151, 1152, 1153, 1154, 1109, 1110, 1111] (by decide +kernel) (by decide +kernel)
set_option maxRecDepth 20000 in
theorem gL_law_X10_sector : GoodIn wsL_law (wsV RL 116 RX10 yX10_sector wsX10_sector) := goodIn_app (goodIn_of _ (by decide +kernel)) ggL_law_X10_sector
set_option maxRecDepth 20000 in
theorem ggL_law_L_weak : GoodIn wsL_law wsL_weak := goodIn_ca (goodIn_r _ [372, 234, 373, 374, 375, 2, 376, 240, 242, 243, 244, 245, 246, 247, 15, 377, 378, 379, 380, 381, 382, 71, 383, 102, 384, 385, 386, 387, 100, 388, 389, 390, 391, 392, 1112, 1113, 1114, 1115, 1116, 1117, 1118, 1119, 1120, 1121, 1122, 1123, 1094, 1095, 1096, 1097, 1098, 1099, 1100, 1124, 1125, 1126, 1127, 1128, 1129] (by decide +kernel) (by decide +kernel)) (goodIn_sub (fun _ h => List.mem_append_right _ h) (by decide +kernel))
set_option maxRecDepth 20000 in
theorem gL_law_L_weak : GoodIn wsL_law (va_wsS RL 117 yL_weak wsL_weak) := goodIn_app (goodIn_of _ (by decide +kernel)) ggL_law_L_weak
set_option maxRecDepth 20000 in
theorem ggL_law_X10_weak : GoodIn wsL_law wsX10_weak := goodIn_r _ [396, 134, 29, 282, 397, 398, 399, 5, 400, 283, 284, 285, 286, 145, 146, 147, 28, 148, 149, 138, 139, 140, 287, 288, 289, 290, 291, 292, 293, 294, 295, 296, 297, 298, 299, 300, 301, 302, 35, 1101, 1102, 1103, 1104, 1105, 1106, 1107, 1108, 1144, 1145, 1146, 1147, 1148, 1149, 1150, 1151, 1152, 1153, 1154, 1109, 1110, 1111] (by decide +kernel) (by decide +kernel)
set_option maxRecDepth 20000 in
theorem gL_law_X10_weak : GoodIn wsL_law (wsV RL 120 RX10 yX10_weak wsX10_weak) := goodIn_app (goodIn_of _ (by decide +kernel)) ggL_law_X10_weak
set_option maxRecDepth 20000 in
theorem ggL_law_L_dirt : GoodIn wsL_law wsL_dirt := goodIn_ca (goodIn_ca (goodIn_r _ [403, 234, 50, 404, 405, 406, 2, 407, 63, 64, 240, 242, 243, 244, 245, 246, 247, 15, 377, 378, 379, 380, 381, 382, 71, 383, 102, 408, 409, 410, 411, 412, 183, 184, 185, 413, 414, 415, 416, 101, 388, 417, 418, 419, 420, 421, 422, 423, 424, 425, 426, 427, 428, 1112, 1113, 1114, 1115, 1116, 1117, 1118, 1119, 1120, 1121, 1122, 1123, 1094, 1095, 1096, 1097, 1098, 1099, 1100, 1124, 1125, 1126, 1127, 1128, 1129] (by decide +kernel) (by decide +kernel)) (goodIn_sub (fun _ h => List.mem_append_left _ (List.mem_append_right _ h)) (by decide +kernel))) (goodIn_sub (fun _ h => List.mem_append_right _ h) (by decide +kernel))
set_option maxRecDepth 20000 in
theorem gL_law_L_dirt : GoodIn wsL_law (va_wsS RL 121 yL_dirt wsL_dirt) := goodIn_app (goodIn_of _ (by decide +kernel)) ggL_law_L_dirt
set_option maxRecDepth 20000 in
theorem ggL_law_X10_dirt : GoodIn wsL_law wsX10_dirt := goodIn_r _ [432, 134, 29, 282, 397, 398, 399, 5, 400, 283, 284, 285, 286, 145, 146, 147, 28, 148, 149, 138, 139, 140, 287, 288, 289, 290, 291, 292, 293, 294, 295, 296, 297, 298, 299, 300, 301, 302, 35, 141, 142, 143, 144, 433, 434, 435, 137, 436, 316, 156, 158, 1101, 1102, 1103, 1104, 1105, 1106, 1107, 1108, 1144, 1145, 1146, 1147, 1148, 1149, 1150, 1151, 1152, 1153, 1154, 1109, 1110, 1111] (by decide +kernel) (by decide +kernel)
set_option maxRecDepth 20000 in
theorem gL_law_X10_dirt : GoodIn wsL_law (wsV RL 124 RX10 yX10_dirt wsX10_dirt) := goodIn_app (goodIn_of _ (by decide +kernel)) ggL_law_X10_dirt
set_option maxRecDepth 20000 in
theorem ggL_law_L_clean : GoodIn wsL_law wsL_clean := goodIn_ca (goodIn_r _ [439, 234, 440, 441, 442, 2, 443, 240, 242, 243, 244, 245, 246, 247, 15, 444, 445, 446, 71, 447, 102, 413, 414, 415, 416, 101, 388, 381, 382, 383, 417, 418, 419, 420, 421, 422, 423, 424, 425, 426, 427, 428, 1112, 1113, 1114, 1115, 1116, 1117, 1118, 1119, 1120, 1121, 1122, 1123, 1094, 1095, 1096, 1097, 1098, 1099, 1100, 1124, 1125, 1126, 1127, 1128, 1129] (by decide +kernel) (by decide +kernel)) (goodIn_sub (fun _ h => List.mem_append_right _ h) (by decide +kernel))
set_option maxRecDepth 20000 in
theorem gL_law_L_clean : GoodIn wsL_law (va_wsS RL 125 yL_clean wsL_clean) := goodIn_app (goodIn_of _ (by decide +kernel)) ggL_law_L_clean
set_option maxRecDepth 20000 in
theorem ggL_law_X10_clean : GoodIn wsL_law wsX10_clean := goodIn_r _ [451, 134, 29, 282, 283, 284, 285, 5, 286, 145, 146, 147, 28, 148, 149, 138, 139, 140, 141, 142, 143, 144, 287, 288, 289, 290, 291, 292, 293, 294, 295, 296, 297, 298, 299, 300, 301, 302, 35, 433, 434, 435, 137, 436, 316, 156, 158, 1101, 1102, 1103, 1104, 1105, 1106, 1107, 1108, 1144, 1145, 1146, 1147, 1148, 1149, 1150, 1151, 1152, 1153, 1154, 1109, 1110, 1111] (by decide +kernel) (by decide +kernel)
set_option maxRecDepth 20000 in
theorem gL_law_X10_clean : GoodIn wsL_law (wsV RL 127 RX10 yX10_clean wsX10_clean) := goodIn_app (goodIn_of _ (by decide +kernel)) ggL_law_X10_clean
set_option maxRecDepth 20000 in
theorem ggL_law_L_read : GoodIn wsL_law wsL_read := goodIn_ca (goodIn_ca (goodIn_r _ [454, 234, 51, 455, 456, 457, 2, 458, 56, 57, 240, 241, 18, 19, 459, 460, 242, 243, 244, 245, 246, 247, 15, 461, 462, 463, 59, 464, 72, 465, 90, 466, 467, 468, 469, 88, 91, 470, 471, 472, 473, 474, 475, 476, 477, 85, 86, 87, 478, 479, 480, 481, 482, 483, 484, 84, 485, 127, 128, 129, 486, 487, 488, 75, 489, 108, 109, 490, 491, 492, 71, 493, 494, 495, 496, 497, 97, 388, 381, 382, 383, 102, 413, 414, 415, 416, 101, 498, 499, 500, 501, 502, 385, 386, 387, 100, 503, 504, 505, 506, 98, 507, 508, 509, 510, 511, 183, 184, 185, 512, 513, 514, 515, 516, 517, 518, 519, 520, 107, 521, 522, 523, 524, 525, 526, 527, 528, 529, 417, 418, 419, 420, 530, 531, 532, 533, 534, 535, 536, 210, 211, 537, 76, 89, 80, 81, 538, 539, 540, 541, 542, 543, 544, 545, 546, 547, 548, 549, 550, 79, 551, 116, 117, 118, 119, 552, 553, 554, 555, 556, 557, 122, 558, 252, 253, 254, 559, 560, 561, 562, 563, 564, 565, 269, 566, 567, 568, 569, 114, 570, 571, 572, 573, 574, 575, 576, 577, 120, 121, 115, 578, 579, 580, 581, 582, 583, 584, 585, 586, 587, 588, 589, 590, 344, 345, 346, 591, 1112, 1113, 1114, 1115, 1116, 1117, 1118, 1119, 1120, 1121, 1122, 1123, 1124, 1125, 1126, 1127, 1128, 1129, 1094, 1095, 1096, 1097, 1098, 1099, 1100, 1142, 1143, 1130, 1131, 1132, 1133, 1134, 1135, 1136, 1137, 1138, 1139, 1140, 1141] (by decide +kernel) (by decide +kernel)) (goodIn_sub (fun _ h => List.mem_append_left _ (List.mem_append_left _ (List.mem_append_right _ h))) (by decide +kernel))) (goodIn_sub (fun _ h => List.mem_append_right _ h) (by decide +kernel))
set_option maxRecDepth 20000 in
theorem gL_law_L_read : GoodIn wsL_law (va_wsS RL 128 yL_read wsL_read) := goodIn_app (goodIn_of _ (by decide +kernel)) ggL_law_L_read
set_option maxRecDepth 20000 in
theorem ggL_law_X10_read : GoodIn wsL_law wsX10_read := goodIn_r _ [595, 134, 29, 282, 596, 597, 598, 599, 283, 284, 285, 5, 286, 145, 146, 147, 28, 148, 149, 138, 139, 140, 141, 142, 143, 144, 287, 288, 289, 290, 291, 292, 293, 294, 295, 296, 297, 298, 299, 300, 301, 302, 35, 600, 601, 602, 12, 13, 96, 603, 604, 605, 606, 607, 608, 609, 610, 611, 612, 613, 614, 615, 616, 617, 618, 619, 480, 620, 621, 622, 623, 624, 625, 626, 627, 628, 629, 630, 631, 632, 633, 634, 635, 636, 637, 638, 639, 640, 641, 642, 643, 644, 645, 646, 647, 648, 649, 650, 651, 652, 164, 165, 166, 167, 168, 169, 170, 171, 172, 173, 174, 175, 176, 177, 178, 179, 180, 181, 34, 182, 183, 184, 185, 186, 187, 188, 189, 190, 191, 192, 193, 194, 195, 196, 197, 198, 199, 200, 201, 202, 203, 204, 205, 206, 207, 208, 209, 210, 211, 212, 213, 214, 215, 653, 654, 655, 656, 657, 658, 659, 660, 661, 1101, 1102, 1103, 1104, 1105, 1106, 1107, 1108, 1144, 1145, 1146, 1147, 1148, 1149, 1150, 1151, 1152, 1153, 1154, 1155, 1156, 1157, 1109, 1110, 1111] (by decide +kernel) (by decide +kernel)
set_option maxRecDepth 20000 in
theorem gL_law_X10_read : GoodIn wsL_law (wsV RL 130 RX10 yX10_read wsX10_read) := goodIn_app (goodIn_of _ (by decide +kernel)) ggL_law_X10_read
set_option maxRecDepth 20000 in
theorem ggL_law_L_copy : GoodIn wsL_law wsL_copy := goodIn_ca (goodIn_ca (goodIn_ca (goodIn_r _ [664, 234, 50, 51, 665, 666, 667, 2, 668, 63, 64, 56, 57, 669, 239, 670, 21, 20, 240, 241, 242, 243, 244, 245, 246, 247, 15, 671, 672, 673, 59, 674, 92, 72, 88, 91, 675, 676, 677, 71, 678, 102, 103, 679, 680, 681, 682, 535, 543, 544, 545, 75, 546, 108, 107, 683, 275, 276, 277, 97, 98, 100, 101, 684, 685, 686, 687, 688, 689, 690, 691, 81, 80, 692, 693, 694, 695, 696, 697, 698, 699, 79, 700, 120, 115, 701, 583, 584, 585, 114, 702, 703, 704, 705, 582, 706, 348, 349, 350, 351, 325, 326, 327, 270, 271, 272, 273, 274, 352, 263, 264, 265, 266, 267, 253, 268, 269, 530, 531, 532, 533, 534, 536, 210, 184, 211, 537, 183, 185, 76, 89, 474, 475, 476, 477, 85, 86, 87, 478, 479, 480, 481, 538, 487, 488, 489, 109, 539, 540, 541, 542, 470, 471, 472, 473, 547, 518, 519, 520, 548, 549, 550, 551, 116, 117, 118, 119, 552, 553, 554, 555, 556, 557, 122, 558, 252, 254, 559, 560, 561, 562, 563, 564, 565, 566, 567, 568, 569, 570, 571, 572, 573, 574, 575, 576, 577, 121, 578, 579, 580, 581, 586, 587, 588, 589, 590, 344, 345, 346, 1112, 1113, 1114, 1115, 1116, 1117, 1118, 1119, 1120, 1121, 1122, 1123, 1094, 1095, 1096, 1097, 1098, 1099, 1100, 1124, 1125, 1126, 1127, 1128, 1129, 1130, 1131, 1132, 1133, 1134, 1135, 1136, 1137, 1138, 1139, 1140, 1141, 1142, 1143] (by decide +kernel) (by decide +kernel)) (goodIn_sub (fun _ h => List.mem_append_left _ (List.mem_append_right _ h)) (by decide +kernel))) (goodIn_sub (fun _ h => List.mem_append_left _ (List.mem_append_left _ (List.mem_append_right _ h))) (by decide +kernel))) (goodIn_sub (fun _ h => List.mem_append_right _ h) (by decide +kernel))
set_option maxRecDepth 20000 in
theorem gL_law_L_copy : GoodIn wsL_law (va_wsS RL 131 yL_copy wsL_copy) := goodIn_app (goodIn_of _ (by decide +kernel)) ggL_law_L_copy
set_option maxRecDepth 20000 in
theorem ggL_law_X10_copy : GoodIn wsL_law wsX10_copy := goodIn_r _ [710, 134, 29, 282, 711, 712, 283, 284, 285, 5, 286, 145, 146, 147, 28, 148, 149, 138, 139, 140, 141, 142, 143, 144, 287, 288, 289, 290, 291, 292, 293, 294, 295, 296, 297, 298, 299, 300, 301, 302, 35, 713, 714, 715, 716, 717, 718, 719, 137, 720, 316, 311, 161, 721, 722, 723, 724, 168, 169, 725, 726, 727, 728, 729, 730, 210, 184, 211, 731, 732, 733, 734, 735, 736, 737, 738, 739, 740, 741, 742, 743, 12, 13, 744, 745, 746, 747, 748, 749, 750, 751, 752, 753, 754, 755, 756, 757, 758, 759, 760, 761, 762, 763, 764, 765, 766, 767, 598, 768, 603, 769, 770, 771, 313, 314, 315, 155, 156, 157, 158, 159, 772, 773, 774, 775, 776, 777, 778, 779, 780, 160, 27, 162, 163, 32, 33, 34, 36, 37, 38, 39, 40, 41, 42, 43, 44, 45, 781, 782, 783, 784, 785, 786, 787, 788, 96, 789, 790, 791, 792, 793, 794, 795, 796, 797, 798, 799, 800, 801, 802, 803, 804, 805, 806, 807, 808, 809, 810, 811, 812, 813, 814, 815, 816, 154, 817, 165, 166, 167, 170, 171, 172, 173, 174, 175, 176, 177, 178, 179, 180, 181, 182, 183, 185, 186, 187, 188, 189, 190, 191, 192, 193, 194, 195, 196, 197, 198, 199, 200, 201, 202, 203, 204, 205, 206, 207, 208, 209, 212, 213, 214, 215, 818, 819, 820, 821, 360, 361, 362, 363, 304, 305, 306, 822, 365, 366, 367, 368, 333, 334, 335, 312, 369, 308, 309, 310, 1101, 1102, 1103, 1104, 1105, 1106, 1107, 1108, 1144, 1145, 1146, 1147, 1148, 1149, 1150, 1151, 1152, 1153, 1154, 1109, 1110, 1111, 1155, 1156, 1157, 1158, 1159, 1160, 1161, 1162, 1163, 1164, 1165, 1166, 1167, 1168] (by decide +kernel) (by decide +kernel)
set_option maxRecDepth 20000 in
theorem gL_law_X10_copy : GoodIn wsL_law (wsV RL 133 RX10 yX10_copy wsX10_copy) := goodIn_app (goodIn_of _ (by decide +kernel)) ggL_law_X10_copy
set_option maxRecDepth 20000 in
theorem ggL_law_L_ofCell : GoodIn wsL_law wsL_ofCell := goodIn_ca (goodIn_ca (goodIn_r _ [825, 234, 50, 826, 827, 828, 2, 829, 240, 242, 243, 244, 245, 246, 247, 15, 377, 378, 379, 380, 381, 382, 71, 383, 102, 830, 831, 832, 63, 64, 833, 495, 496, 497, 97, 388, 834, 504, 505, 506, 98, 384, 385, 386, 387, 100, 835, 426, 427, 428, 413, 414, 415, 416, 101, 1112, 1113, 1114, 1115, 1116, 1117, 1118, 1119, 1120, 1121, 1122, 1123, 1094, 1095, 1096, 1097, 1098, 1099, 1100, 1124, 1125, 1126, 1127, 1128, 1129] (by decide +kernel) (by decide +kernel)) (goodIn_sub (fun _ h => List.mem_append_right _ h) (by decide +kernel))) (goodIn_sub (fun _ h => List.mem_append_left _ (List.mem_append_right _ h)) (by decide +kernel))
set_option maxRecDepth 20000 in
theorem gL_law_L_ofCell : GoodIn wsL_law (va_wsS RL 134 yL_ofCell wsL_ofCell) := goodIn_app (goodIn_of _ (by decide +kernel)) ggL_law_L_ofCell
set_option maxRecDepth 20000 in
theorem ggL_law_X10_ofCell : GoodIn wsL_law wsX10_ofCell := goodIn_r _ [839, 134, 29, 282, 96, 397, 398, 399, 5, 400, 283, 284, 285, 286, 145, 146, 147, 28, 148, 149, 138, 139, 140, 287, 288, 289, 290, 291, 292, 293, 294, 295, 296, 297, 298, 299, 300, 301, 302, 35, 141, 142, 143, 144, 1101, 1102, 1103, 1104, 1105, 1106, 1107, 1108, 1144, 1145, 1146, 1147, 1148, 1149, 1150, 1151, 1152, 1153, 1154, 1109, 1110, 1111] (by decide +kernel) (by decide +kernel)
set_option maxRecDepth 20000 in
theorem gL_law_X10_ofCell : GoodIn wsL_law (wsV RL 136 RX10 yX10_ofCell wsX10_ofCell) := goodIn_app (goodIn_of _ (by decide +kernel)) ggL_law_X10_ofCell
set_option maxRecDepth 20000 in
theorem ggL_law_L_ofTrack : GoodIn wsL_law wsL_ofTrack := goodIn_ca (goodIn_ca (goodIn_r _ [842, 234, 50, 843, 844, 845, 2, 846, 239, 240, 241, 669, 670, 460, 847, 848, 849, 850, 851, 852, 242, 243, 244, 245, 246, 247, 15, 830, 831, 832, 63, 64, 684, 685, 686, 59, 687, 92, 688, 689, 690, 691, 81, 80, 853, 854, 855, 856, 857, 858, 89, 859, 860, 76, 535, 861, 862, 863, 864, 79, 865, 116, 582, 583, 584, 585, 114, 866, 867, 868, 71, 869, 102, 870, 504, 505, 506, 98, 388, 381, 382, 383, 1112, 1113, 1114, 1115, 1116, 1117, 1118, 1119, 1120, 1121, 1122, 1123, 1124, 1125, 1126, 1127, 1128, 1129, 1130, 1131, 1132, 1133, 1134, 1135, 1136, 1137, 1138, 1139, 1140, 1141, 1094, 1095, 1096, 1097, 1098, 1099, 1100] (by decide +kernel) (by decide +kernel)) (goodIn_sub (fun _ h => List.mem_append_right _ h) (by decide +kernel))) (goodIn_sub (fun _ h => List.mem_append_left _ (List.mem_append_right _ h)) (by decide +kernel))
set_option maxRecDepth 20000 in
theorem gL_law_L_ofTrack : GoodIn wsL_law (va_wsS RL 137 yL_ofTrack wsL_ofTrack) := goodIn_app (goodIn_of _ (by decide +kernel)) ggL_law_L_ofTrack
set_option maxRecDepth 20000 in
theorem ggL_law_X10_ofTrack : GoodIn wsL_law wsX10_ofTrack := goodIn_r _ [874, 134, 29, 282, 283, 284, 285, 5, 286, 145, 146, 147, 28, 148, 149, 138, 139, 140, 141, 142, 143, 144, 287, 288, 289, 290, 291, 292, 293, 294, 295, 296, 297, 298, 299, 300, 301, 302, 35, 875, 876, 877, 878, 879, 782, 783, 137, 784, 160, 27, 163, 32, 33, 34, 36, 37, 38, 39, 40, 41, 42, 43, 44, 45, 12, 13, 785, 786, 787, 788, 96, 789, 726, 727, 728, 161, 729, 730, 210, 184, 211, 731, 714, 715, 716, 732, 733, 734, 735, 736, 737, 738, 739, 740, 741, 742, 743, 744, 745, 169, 746, 747, 748, 749, 750, 751, 752, 753, 754, 755, 756, 757, 758, 759, 760, 790, 762, 763, 764, 765, 766, 767, 598, 768, 603, 769, 770, 791, 792, 793, 794, 795, 796, 797, 798, 799, 800, 801, 802, 803, 804, 805, 806, 807, 808, 809, 810, 811, 812, 813, 814, 815, 816, 154, 817, 165, 166, 167, 168, 170, 171, 172, 173, 174, 175, 176, 177, 178, 179, 180, 181, 182, 183, 185, 186, 187, 188, 189, 190, 191, 192, 193, 194, 195, 196, 197, 198, 199, 200, 201, 202, 203, 204, 205, 206, 207, 208, 209, 212, 213, 214, 215, 880, 881, 882, 725, 883, 884, 885, 886, 887, 888, 889, 890, 891, 892, 893, 894, 895, 162, 776, 781, 896, 433, 434, 435, 436, 316, 156, 158, 1101, 1102, 1103, 1104, 1105, 1106, 1107, 1108, 1109, 1110, 1111, 1144, 1145, 1146, 1147, 1148, 1149, 1150, 1151, 1152, 1153, 1154, 1162, 1163, 1164, 1165, 1166, 1167, 1168, 1155, 1156, 1157, 1158, 1159, 1160, 1161] (by decide +kernel) (by decide +kernel)
set_option maxRecDepth 20000 in
theorem gL_law_X10_ofTrack : GoodIn wsL_law (wsV RL 139 RX10 yX10_ofTrack wsX10_ofTrack) := goodIn_app (goodIn_of _ (by decide +kernel)) ggL_law_X10_ofTrack
set_option maxRecDepth 20000 in
theorem ggL_law_L_vote : GoodIn wsL_law wsL_vote := goodIn_ca (goodIn_r _ [899, 234, 900, 901, 902, 2, 903, 246, 247, 670, 460, 242, 243, 244, 245, 15, 904, 544, 545, 75, 546, 108, 107, 1112, 1113, 1114, 1115, 1116, 1117, 1118, 1119, 1120, 1121, 1122, 1123, 1130, 1131, 1132, 1094, 1095, 1096, 1097, 1098, 1099, 1100] (by decide +kernel) (by decide +kernel)) (goodIn_sub (fun _ h => List.mem_append_right _ h) (by decide +kernel))
set_option maxRecDepth 20000 in
theorem gL_law_L_vote : GoodIn wsL_law (va_wsS RL 140 yL_vote wsL_vote) := goodIn_app (goodIn_of _ (by decide +kernel)) ggL_law_L_vote
set_option maxRecDepth 20000 in
theorem ggL_law_X10_vote : GoodIn wsL_law wsX10_vote := goodIn_r _ [908, 134, 29, 282, 283, 284, 285, 5, 286, 145, 146, 147, 28, 148, 149, 138, 139, 140, 287, 288, 289, 290, 291, 292, 293, 294, 295, 296, 297, 298, 299, 300, 301, 302, 35, 725, 726, 727, 137, 728, 161, 729, 730, 210, 184, 211, 731, 714, 715, 716, 732, 733, 734, 735, 736, 737, 738, 739, 740, 741, 742, 743, 12, 13, 744, 745, 169, 746, 747, 748, 749, 750, 751, 752, 753, 754, 755, 756, 757, 758, 759, 760, 761, 762, 763, 764, 765, 766, 767, 598, 768, 603, 769, 770, 141, 142, 143, 144, 1101, 1102, 1103, 1104, 1105, 1106, 1107, 1108, 1109, 1110, 1111, 1144, 1145, 1146, 1147, 1148, 1149, 1150, 1151, 1152, 1153, 1154, 1155, 1156, 1157, 1158, 1159, 1160, 1161] (by decide +kernel) (by decide +kernel)
set_option maxRecDepth 20000 in
theorem gL_law_X10_vote : GoodIn wsL_law (wsV RL 142 RX10 yX10_vote wsX10_vote) := goodIn_app (goodIn_of _ (by decide +kernel)) ggL_law_X10_vote
set_option maxRecDepth 20000 in
theorem ggL_law_L_turn : GoodIn wsL_law wsL_turn := goodIn_ca (goodIn_r _ [911, 234, 912, 913, 914, 2, 915, 459, 916, 460, 917, 918, 919, 920, 246, 247, 669, 242, 243, 244, 245, 15, 921, 475, 476, 59, 477, 91, 85, 86, 87, 478, 479, 480, 481, 1142, 1143, 1130, 1131, 1132, 1112, 1113, 1114, 1115, 1116, 1117, 1118, 1119, 1120, 1121, 1122, 1123, 1094, 1095, 1096, 1097, 1098, 1099, 1100] (by decide +kernel) (by decide +kernel)) (goodIn_sub (fun _ h => List.mem_append_right _ h) (by decide +kernel))
set_option maxRecDepth 20000 in
theorem gL_law_L_turn : GoodIn wsL_law (va_wsS RL 143 yL_turn wsL_turn) := goodIn_app (goodIn_of _ (by decide +kernel)) ggL_law_L_turn
set_option maxRecDepth 20000 in
theorem ggL_law_X10_turn : GoodIn wsL_law wsX10_turn := goodIn_r _ [925, 134, 29, 282, 926, 927, 928, 929, 5, 930, 283, 284, 285, 286, 145, 146, 147, 28, 148, 149, 138, 139, 140, 287, 288, 289, 290, 291, 292, 293, 294, 295, 296, 297, 298, 299, 300, 301, 302, 35, 931, 932, 933, 934, 766, 767, 598, 768, 603, 141, 142, 143, 144, 1101, 1102, 1103, 1104, 1105, 1106, 1107, 1108, 1144, 1145, 1146, 1147, 1148, 1149, 1150, 1151, 1152, 1153, 1154, 1109, 1110, 1111, 1155, 1156, 1157] (by decide +kernel) (by decide +kernel)
set_option maxRecDepth 20000 in
theorem gL_law_X10_turn : GoodIn wsL_law (wsV RL 145 RX10 yX10_turn wsX10_turn) := goodIn_app (goodIn_of _ (by decide +kernel)) ggL_law_X10_turn
set_option maxRecDepth 20000 in
theorem ggL_law_L_period : GoodIn wsL_law wsL_period := goodIn_ca (goodIn_r _ [937, 234, 938, 939, 940, 2, 941, 942, 917, 918, 919, 920, 246, 247, 669, 242, 243, 244, 245, 15, 921, 475, 476, 59, 477, 91, 85, 86, 87, 478, 479, 480, 481, 1142, 1143, 1112, 1113, 1114, 1115, 1116, 1117, 1118, 1119, 1120, 1121, 1122, 1123, 1094, 1095, 1096, 1097, 1098, 1099, 1100] (by decide +kernel) (by decide +kernel)) (goodIn_sub (fun _ h => List.mem_append_right _ h) (by decide +kernel))
set_option maxRecDepth 20000 in
theorem gL_law_L_period : GoodIn wsL_law (va_wsS RL 146 yL_period wsL_period) := goodIn_app (goodIn_of _ (by decide +kernel)) ggL_law_L_period
set_option maxRecDepth 20000 in
theorem ggL_law_X10_period : GoodIn wsL_law wsX10_period := goodIn_r _ [946, 134, 29, 282, 926, 927, 928, 929, 5, 930, 283, 284, 285, 286, 145, 146, 147, 28, 148, 149, 138, 139, 140, 287, 288, 289, 290, 291, 292, 293, 294, 295, 296, 297, 298, 299, 300, 301, 302, 35, 1101, 1102, 1103, 1104, 1105, 1106, 1107, 1108, 1144, 1145, 1146, 1147, 1148, 1149, 1150, 1151, 1152, 1153, 1154, 1155, 1156, 1157, 1109, 1110, 1111] (by decide +kernel) (by decide +kernel)
set_option maxRecDepth 20000 in
theorem gL_law_X10_period : GoodIn wsL_law (wsV RL 149 RX10 yX10_period wsX10_period) := goodIn_app (goodIn_of _ (by decide +kernel)) ggL_law_X10_period
set_option maxRecDepth 20000 in
theorem ggL_law_L_ofSector : GoodIn wsL_law wsL_ofSector := goodIn_ca (goodIn_ca (goodIn_r _ [949, 234, 50, 950, 951, 952, 2, 953, 246, 247, 848, 242, 243, 244, 245, 15, 684, 685, 686, 59, 687, 92, 688, 689, 690, 691, 81, 80, 830, 831, 832, 63, 64, 954, 583, 584, 79, 585, 114, 1133, 1134, 1135, 1136, 1137, 1138, 1139, 1140, 1141, 1094, 1095, 1096, 1097, 1098, 1099, 1100, 1112, 1113, 1114, 1115, 1116, 1117, 1118, 1119, 1120, 1121, 1122, 1123] (by decide +kernel) (by decide +kernel)) (goodIn_sub (fun _ h => List.mem_append_right _ h) (by decide +kernel))) (goodIn_sub (fun _ h => List.mem_append_left _ (List.mem_append_right _ h)) (by decide +kernel))
set_option maxRecDepth 20000 in
theorem gL_law_L_ofSector : GoodIn wsL_law (va_wsS RL 150 yL_ofSector wsL_ofSector) := goodIn_app (goodIn_of _ (by decide +kernel)) ggL_law_L_ofSector
set_option maxRecDepth 20000 in
theorem ggL_law_X10_ofSector : GoodIn wsL_law wsX10_ofSector := goodIn_r _ [958, 134, 29, 282, 878, 283, 284, 285, 5, 286, 145, 146, 147, 28, 148, 149, 138, 139, 140, 141, 142, 143, 144, 287, 288, 289, 290, 291, 292, 293, 294, 295, 296, 297, 298, 299, 300, 301, 302, 35, 959, 960, 961, 26, 27, 31, 32, 33, 34, 36, 37, 38, 39, 40, 41, 42, 43, 44, 45, 12, 13, 879, 782, 783, 137, 784, 160, 163, 785, 786, 787, 788, 96, 789, 726, 727, 728, 161, 729, 730, 210, 184, 211, 731, 714, 715, 716, 732, 733, 734, 735, 736, 737, 738, 739, 740, 741, 742, 743, 744, 745, 169, 746, 747, 748, 749, 750, 751, 752, 753, 754, 755, 756, 757, 758, 759, 760, 790, 762, 763, 764, 765, 766, 767, 598, 768, 603, 769, 770, 791, 792, 793, 794, 795, 796, 797, 798, 799, 800, 801, 802, 803, 804, 805, 806, 807, 808, 809, 810, 811, 812, 813, 814, 815, 816, 154, 817, 165, 166, 167, 168, 170, 171, 172, 173, 174, 175, 176, 177, 178, 179, 180, 181, 182, 183, 185, 186, 187, 188, 189, 190, 191, 192, 193, 194, 195, 196, 197, 198, 199, 200, 201, 202, 203, 204, 205, 206, 207, 208, 209, 212, 213, 214, 215, 880, 881, 882, 164, 962, 963, 964, 1101, 1102, 1103, 1104, 1105, 1106, 1107, 1108, 1109, 1110, 1111, 1144, 1145, 1146, 1147, 1148, 1149, 1150, 1151, 1152, 1153, 1154, 1162, 1163, 1164, 1165, 1166, 1167, 1168, 1155, 1156, 1157, 1158, 1159, 1160, 1161] (by decide +kernel) (by decide +kernel)
set_option maxRecDepth 20000 in
theorem gL_law_X10_ofSector : GoodIn wsL_law (wsV RL 152 RX10 yX10_ofSector wsX10_ofSector) := goodIn_app (goodIn_of _ (by decide +kernel)) ggL_law_X10_ofSector
set_option maxRecDepth 20000 in
theorem ggL_law_L_chain : GoodIn wsL_law wsL_chain := goodIn_ca (goodIn_ca (goodIn_r _ [967, 234, 50, 968, 969, 970, 2, 971, 242, 243, 244, 245, 246, 247, 15, 248, 249, 250, 63, 64, 684, 685, 686, 59, 687, 92, 688, 689, 690, 691, 81, 80, 972, 973, 974, 79, 975, 116, 586, 587, 588, 589, 582, 583, 584, 585, 114, 1094, 1095, 1096, 1097, 1098, 1099, 1100, 1112, 1113, 1114, 1115, 1116, 1117, 1118, 1119, 1120, 1121, 1122, 1123, 1133, 1134, 1135, 1136, 1137, 1138, 1139, 1140, 1141] (by decide +kernel) (by decide +kernel)) (goodIn_sub (fun _ h => List.mem_append_right _ h) (by decide +kernel))) (goodIn_sub (fun _ h => List.mem_append_left _ (List.mem_append_right _ h)) (by decide +kernel))
set_option maxRecDepth 20000 in
theorem gL_law_L_chain : GoodIn wsL_law (va_wsS RL 153 yL_chain wsL_chain) := goodIn_app (goodIn_of _ (by decide +kernel)) ggL_law_L_chain
set_option maxRecDepth 20000 in
theorem ggL_law_X10_chain : GoodIn wsL_law wsX10_chain := goodIn_r _ [979, 134, 29, 282, 283, 284, 285, 5, 286, 145, 146, 147, 28, 148, 149, 138, 139, 140, 141, 142, 143, 144, 287, 288, 289, 290, 291, 292, 293, 294, 295, 296, 297, 298, 299, 300, 301, 302, 35, 980, 778, 779, 137, 780, 160, 27, 162, 776, 163, 32, 33, 34, 36, 37, 38, 39, 40, 41, 42, 43, 44, 45, 12, 13, 781, 782, 783, 784, 785, 786, 787, 788, 96, 789, 726, 727, 728, 161, 729, 730, 210, 184, 211, 731, 714, 715, 716, 732, 733, 734, 735, 736, 737, 738, 739, 740, 741, 742, 743, 744, 745, 169, 746, 747, 748, 749, 750, 751, 752, 753, 754, 755, 756, 757, 758, 759, 760, 790, 762, 763, 764, 765, 766, 767, 598, 768, 603, 769, 770, 791, 792, 793, 794, 795, 796, 797, 798, 799, 800, 801, 802, 803, 804, 805, 806, 807, 808, 809, 810, 811, 812, 813, 814, 815, 816, 154, 817, 165, 166, 167, 168, 170, 171, 172, 173, 174, 175, 176, 177, 178, 179, 180, 181, 182, 183, 185, 186, 187, 188, 189, 190, 191, 192, 193, 194, 195, 196, 197, 198, 199, 200, 201, 202, 203, 204, 205, 206, 207, 208, 209, 212, 213, 214, 215, 818, 819, 820, 981, 1101, 1102, 1103, 1104, 1105, 1106, 1107, 1108, 1162, 1163, 1164, 1165, 1166, 1167, 1168, 1109, 1110, 1111, 1144, 1145, 1146, 1147, 1148, 1149, 1150, 1151, 1152, 1153, 1154, 1155, 1156, 1157, 1158, 1159, 1160, 1161] (by decide +kernel) (by decide +kernel)
set_option maxRecDepth 20000 in
theorem gL_law_X10_chain : GoodIn wsL_law (wsV RL 155 RX10 yX10_chain wsX10_chain) := goodIn_app (goodIn_of _ (by decide +kernel)) ggL_law_X10_chain
set_option maxRecDepth 20000 in
theorem ggL_law_L_many : GoodIn wsL_law wsL_many := goodIn_ca (goodIn_ca (goodIn_r _ [984, 50, 985, 986, 987, 2, 988, 16, 17, 18, 19, 20, 21, 830, 831, 832, 63, 64, 989, 990, 991, 992, 240, 242, 243, 244, 245, 246, 247, 15, 421, 422, 423, 71, 424, 102, 425, 426, 427, 428, 413, 414, 415, 416, 101, 388, 381, 382, 383, 1094, 1095, 1096, 1097, 1098, 1099, 1100, 1112, 1113, 1114, 1115, 1116, 1117, 1118, 1119, 1120, 1121, 1122, 1123, 1124, 1125, 1126, 1127, 1128, 1129] (by decide +kernel) (by decide +kernel)) (goodIn_sub (fun _ h => List.mem_append_left _ (List.mem_append_right _ h)) (by decide +kernel))) (goodIn_sub (fun _ h => List.mem_append_right _ h) (by decide +kernel))
set_option maxRecDepth 20000 in
theorem gL_law_L_many : GoodIn wsL_law (va_wsS RL 156 yL_many wsL_many) := goodIn_app (goodIn_of _ (by decide +kernel)) ggL_law_L_many
set_option maxRecDepth 20000 in
theorem ggL_law_X10_many : GoodIn wsL_law wsX10_many := goodIn_r _ [996, 134, 138, 139, 5, 140, 997, 998, 999, 1000, 29, 282, 96, 30, 610, 599, 712, 711, 880, 733, 734, 28, 735, 736, 737, 738, 739, 740, 741, 742, 743, 12, 13, 744, 745, 169, 746, 881, 748, 749, 750, 751, 882, 753, 754, 755, 756, 757, 758, 759, 760, 433, 434, 435, 137, 436, 316, 156, 158, 145, 146, 147, 148, 149, 141, 142, 143, 144, 1101, 1102, 1103, 1104, 1105, 1106, 1107, 1108, 1158, 1159, 1160, 1161, 1109, 1110, 1111, 1144, 1145, 1146, 1147, 1148, 1149, 1150, 1151, 1152, 1153, 1154] (by decide +kernel) (by decide +kernel)
set_option maxRecDepth 20000 in
theorem gL_law_X10_many : GoodIn wsL_law (wsV RL 158 RX10 yX10_many wsX10_many) := goodIn_app (goodIn_of _ (by decide +kernel)) ggL_law_X10_many
set_option maxRecDepth 20000 in
theorem ggL_law_L_sure : GoodIn wsL_law wsL_sure := goodIn_ca (goodIn_r _ [1003, 234, 1004, 1005, 1006, 2, 1007, 670, 460, 847, 669, 242, 243, 244, 245, 246, 247, 15, 1112, 1113, 1114, 1115, 1116, 1117, 1118, 1119, 1120, 1121, 1122, 1123, 1130, 1131, 1132, 1094, 1095, 1096, 1097, 1098, 1099, 1100] (by decide +kernel) (by decide +kernel)) (goodIn_sub (fun _ h => List.mem_append_right _ h) (by decide +kernel))
set_option maxRecDepth 20000 in
theorem gL_law_L_sure : GoodIn wsL_law (va_wsS RL 159 yL_sure wsL_sure) := goodIn_app (goodIn_of _ (by decide +kernel)) ggL_law_L_sure
set_option maxRecDepth 20000 in
theorem ggL_law_X10_sure : GoodIn wsL_law wsX10_sure := goodIn_r _ [1011, 134, 29, 282, 283, 284, 285, 5, 286, 145, 146, 147, 28, 148, 149, 138, 139, 140, 287, 288, 289, 290, 291, 292, 293, 294, 295, 296, 297, 298, 299, 300, 301, 302, 35, 725, 726, 727, 137, 728, 161, 729, 730, 210, 184, 211, 731, 714, 715, 716, 732, 733, 734, 735, 736, 737, 738, 739, 740, 741, 742, 743, 12, 13, 744, 745, 169, 746, 747, 748, 749, 750, 751, 752, 753, 754, 755, 756, 757, 758, 759, 760, 883, 884, 885, 886, 887, 888, 889, 890, 891, 183, 185, 789, 765, 766, 767, 598, 768, 603, 769, 1101, 1102, 1103, 1104, 1105, 1106, 1107, 1108, 1109, 1110, 1111, 1144, 1145, 1146, 1147, 1148, 1149, 1150, 1151, 1152, 1153, 1154, 1155, 1156, 1157, 1158, 1159, 1160, 1161] (by decide +kernel) (by decide +kernel)
set_option maxRecDepth 20000 in
theorem gL_law_X10_sure : GoodIn wsL_law (wsV RL 162 RX10 yX10_sure wsX10_sure) := goodIn_app (goodIn_of _ (by decide +kernel)) ggL_law_X10_sure
set_option maxRecDepth 20000 in
theorem ggL_law_L_plainLong : GoodIn wsL_law wsL_plainLong := goodIn_ca (goodIn_r _ [1014, 234, 1015, 1016, 1017, 2, 1018, 1019, 242, 243, 244, 245, 246, 247, 15, 684, 685, 686, 59, 687, 92, 688, 689, 690, 691, 81, 80, 1133, 1134, 1135, 1136, 1137, 1138, 1139, 1140, 1141, 1094, 1095, 1096, 1097, 1098, 1099, 1100, 1112, 1113, 1114, 1115, 1116, 1117, 1118, 1119, 1120, 1121, 1122, 1123] (by decide +kernel) (by decide +kernel)) (goodIn_sub (fun _ h => List.mem_append_right _ h) (by decide +kernel))
set_option maxRecDepth 20000 in
theorem gL_law_L_plainLong : GoodIn wsL_law (va_wsS RL 163 yL_plainLong wsL_plainLong) := goodIn_app (goodIn_of _ (by decide +kernel)) ggL_law_L_plainLong
set_option maxRecDepth 20000 in
theorem ggL_law_X10_plainLong : GoodIn wsL_law wsX10_plainLong := goodIn_r _ [1023, 134, 29, 282, 283, 284, 285, 5, 286, 145, 146, 147, 28, 148, 149, 138, 139, 140, 287, 288, 289, 290, 291, 292, 293, 294, 295, 296, 297, 298, 299, 300, 301, 302, 35, 1024, 1025, 1026, 135, 136, 137, 150, 151, 152, 153, 12, 13, 96, 154, 155, 156, 99, 157, 158, 159, 160, 27, 161, 162, 163, 32, 33, 34, 36, 37, 38, 39, 40, 41, 42, 43, 44, 45, 772, 773, 774, 775, 776, 316, 777, 778, 779, 780, 781, 782, 783, 784, 785, 786, 787, 788, 789, 726, 727, 728, 729, 730, 210, 184, 211, 731, 714, 715, 716, 732, 733, 734, 735, 736, 737, 738, 739, 740, 741, 742, 743, 744, 745, 169, 746, 747, 748, 749, 750, 751, 752, 753, 754, 755, 756, 757, 758, 759, 760, 790, 762, 763, 764, 765, 766, 767, 598, 768, 603, 769, 770, 791, 792, 793, 794, 795, 796, 797, 798, 799, 800, 801, 802, 803, 804, 805, 806, 807, 808, 809, 810, 811, 812, 813, 814, 815, 816, 817, 165, 166, 167, 168, 170, 171, 172, 173, 174, 175, 176, 177, 178, 179, 180, 181, 182, 183, 185, 186, 187, 188, 189, 190, 191, 192, 193, 194, 195, 196, 197, 198, 199, 200, 201, 202, 203, 204, 205, 206, 207, 208, 209, 212, 213, 214, 215, 818, 819, 820, 821, 360, 361, 362, 363, 304, 305, 306, 822, 365, 366, 367, 368, 333, 334, 335, 311, 312, 313, 314, 315, 369, 308, 309, 310, 141, 142, 143, 144, 1101, 1102, 1103, 1104, 1105, 1106, 1107, 1108, 1144, 1145, 1146, 1147, 1148, 1149, 1150, 1151, 1152, 1153, 1154, 1109, 1110, 1111, 1162, 1163, 1164, 1165, 1166, 1167, 1168, 1155, 1156, 1157, 1158, 1159, 1160, 1161] (by decide +kernel) (by decide +kernel)
set_option maxRecDepth 20000 in
theorem gL_law_X10_plainLong : GoodIn wsL_law (wsV RL 165 RX10 yX10_plainLong wsX10_plainLong) := goodIn_app (goodIn_of _ (by decide +kernel)) ggL_law_X10_plainLong
set_option maxRecDepth 20000 in
theorem ggL_law_L_wouldLose : GoodIn wsL_law wsL_wouldLose := goodIn_ca (goodIn_r _ [1029, 234, 1030, 1031, 1032, 2, 1033, 1019, 242, 243, 244, 245, 246, 247, 15, 684, 685, 686, 59, 687, 92, 688, 689, 690, 691, 81, 80, 853, 854, 855, 856, 857, 858, 89, 859, 860, 76, 535, 861, 862, 863, 864, 79, 865, 116, 582, 583, 584, 585, 114, 1133, 1134, 1135, 1136, 1137, 1138, 1139, 1140, 1141, 1094, 1095, 1096, 1097, 1098, 1099, 1100, 1112, 1113, 1114, 1115, 1116, 1117, 1118, 1119, 1120, 1121, 1122, 1123, 1130, 1131, 1132] (by decide +kernel) (by decide +kernel)) (goodIn_sub (fun _ h => List.mem_append_right _ h) (by decide +kernel))
set_option maxRecDepth 20000 in
theorem gL_law_L_wouldLose : GoodIn wsL_law (va_wsS RL 166 yL_wouldLose wsL_wouldLose) := goodIn_app (goodIn_of _ (by decide +kernel)) ggL_law_L_wouldLose
set_option maxRecDepth 20000 in
theorem ggL_law_X10_wouldLose : GoodIn wsL_law wsX10_wouldLose := goodIn_r _ [1037, 134, 29, 282, 283, 284, 285, 5, 286, 145, 146, 147, 28, 148, 149, 138, 139, 140, 287, 288, 289, 290, 291, 292, 293, 294, 295, 296, 297, 298, 299, 300, 301, 302, 35, 1038, 1039, 1040, 1024, 1025, 1026, 135, 136, 137, 150, 151, 152, 153, 12, 13, 96, 154, 155, 156, 99, 157, 158, 159, 160, 27, 161, 162, 163, 32, 33, 34, 36, 37, 38, 39, 40, 41, 42, 43, 44, 45, 772, 773, 774, 775, 776, 316, 777, 778, 779, 780, 781, 782, 783, 784, 785, 786, 787, 788, 789, 726, 727, 728, 729, 730, 210, 184, 211, 731, 714, 715, 716, 732, 733, 734, 735, 736, 737, 738, 739, 740, 741, 742, 743, 744, 745, 169, 746, 747, 748, 749, 750, 751, 752, 753, 754, 755, 756, 757, 758, 759, 760, 790, 762, 763, 764, 765, 766, 767, 598, 768, 603, 769, 770, 791, 792, 793, 794, 795, 796, 797, 798, 799, 800, 801, 802, 803, 804, 805, 806, 807, 808, 809, 810, 811, 812, 813, 814, 815, 816, 817, 165, 166, 167, 168, 170, 171, 172, 173, 174, 175, 176, 177, 178, 179, 180, 181, 182, 183, 185, 186, 187, 188, 189, 190, 191, 192, 193, 194, 195, 196, 197, 198, 199, 200, 201, 202, 203, 204, 205, 206, 207, 208, 209, 212, 213, 214, 215, 818, 819, 820, 821, 360, 361, 362, 363, 304, 305, 306, 822, 365, 366, 367, 368, 333, 334, 335, 311, 312, 313, 314, 315, 369, 308, 309, 310, 1041, 1042, 1043, 1044, 1045, 597, 600, 601, 602, 604, 605, 1046, 612, 613, 614, 615, 616, 617, 618, 619, 480, 620, 621, 622, 623, 624, 625, 626, 627, 628, 629, 630, 631, 632, 633, 634, 635, 636, 637, 638, 639, 640, 641, 642, 643, 644, 645, 646, 647, 648, 649, 650, 651, 652, 164, 892, 893, 894, 895, 896, 884, 885, 886, 887, 888, 889, 890, 891, 141, 142, 143, 144, 1101, 1102, 1103, 1104, 1105, 1106, 1107, 1108, 1109, 1110, 1111, 1144, 1145, 1146, 1147, 1148, 1149, 1150, 1151, 1152, 1153, 1154, 1162, 1163, 1164, 1165, 1166, 1167, 1168, 1155, 1156, 1157, 1158, 1159, 1160, 1161] (by decide +kernel) (by decide +kernel)
set_option maxRecDepth 20000 in
theorem gL_law_X10_wouldLose : GoodIn wsL_law (wsV RL 168 RX10 yX10_wouldLose wsX10_wouldLose) := goodIn_app (goodIn_of _ (by decide +kernel)) ggL_law_X10_wouldLose
set_option maxRecDepth 20000 in
theorem ggL_law_L_goodBy : GoodIn wsL_law wsL_goodBy := goodIn_ca (goodIn_ca (goodIn_r _ [1049, 234, 50, 1050, 1051, 1052, 2, 1053, 849, 242, 243, 244, 245, 246, 247, 15, 60, 61, 62, 63, 64, 1054, 689, 690, 59, 691, 81, 80, 1133, 1134, 1135, 1136, 1137, 1138, 1139, 1140, 1141, 1094, 1095, 1096, 1097, 1098, 1099, 1100, 1112, 1113, 1114, 1115, 1116, 1117, 1118, 1119, 1120, 1121, 1122, 1123] (by decide +kernel) (by decide +kernel)) (goodIn_sub (fun _ h => List.mem_append_right _ h) (by decide +kernel))) (goodIn_sub (fun _ h => List.mem_append_left _ (List.mem_append_right _ h)) (by decide +kernel))
set_option maxRecDepth 20000 in
theorem gL_law_L_goodBy : GoodIn wsL_law (va_wsS RL 169 yL_goodBy wsL_goodBy) := goodIn_app (goodIn_of _ (by decide +kernel)) ggL_law_L_goodBy
set_option maxRecDepth 20000 in
theorem ggL_law_X10_goodBy : GoodIn wsL_law wsX10_goodBy := goodIn_r _ [1058, 134, 29, 282, 283, 284, 285, 5, 286, 145, 146, 147, 28, 148, 149, 138, 139, 140, 141, 142, 143, 144, 287, 288, 289, 290, 291, 292, 293, 294, 295, 296, 297, 298, 299, 300, 301, 302, 35, 1059, 1060, 1061, 878, 879, 782, 783, 137, 784, 160, 27, 163, 32, 33, 34, 36, 37, 38, 39, 40, 41, 42, 43, 44, 45, 12, 13, 785, 786, 787, 788, 96, 789, 726, 727, 728, 161, 729, 730, 210, 184, 211, 731, 714, 715, 716, 732, 733, 734, 735, 736, 737, 738, 739, 740, 741, 742, 743, 744, 745, 169, 746, 747, 748, 749, 750, 751, 752, 753, 754, 755, 756, 757, 758, 759, 760, 790, 762, 763, 764, 765, 766, 767, 598, 768, 603, 769, 770, 791, 792, 793, 794, 795, 796, 797, 798, 799, 800, 801, 802, 803, 804, 805, 806, 807, 808, 809, 810, 811, 812, 813, 814, 815, 816, 154, 817, 165, 166, 167, 168, 170, 171, 172, 173, 174, 175, 176, 177, 178, 179, 180, 181, 182, 183, 185, 186, 187, 188, 189, 190, 191, 192, 193, 194, 195, 196, 197, 198, 199, 200, 201, 202, 203, 204, 205, 206, 207, 208, 209, 212, 213, 214, 215, 880, 881, 882, 1101, 1102, 1103, 1104, 1105, 1106, 1107, 1108, 1109, 1110, 1111, 1162, 1163, 1164, 1165, 1166, 1167, 1168, 1144, 1145, 1146, 1147, 1148, 1149, 1150, 1151, 1152, 1153, 1154, 1155, 1156, 1157, 1158, 1159, 1160, 1161] (by decide +kernel) (by decide +kernel)
set_option maxRecDepth 20000 in
theorem gL_law_X10_goodBy : GoodIn wsL_law (wsV RL 171 RX10 yX10_goodBy wsX10_goodBy) := goodIn_app (goodIn_of _ (by decide +kernel)) ggL_law_X10_goodBy
set_option maxRecDepth 20000 in
theorem ggL_law_X6_digest : GoodIn wsL_law wsX6_digest := goodIn_ca (goodIn_ca (goodIn_r _ [1065, 1066, 1067, 16, 1068, 986, 987, 2, 988, 17, 18, 19, 20, 21, 830, 831, 832, 63, 64, 989, 990, 991, 992, 240, 242, 243, 244, 245, 246, 247, 15, 421, 422, 423, 71, 424, 102, 425, 426, 427, 428, 413, 414, 415, 416, 101, 388, 381, 382, 383, 1069, 1070, 1071, 1072, 669, 1073, 844, 845, 846, 239, 241, 670, 460, 847, 848, 849, 850, 851, 852, 684, 685, 686, 59, 687, 92, 688, 689, 690, 691, 81, 80, 853, 854, 855, 856, 857, 858, 89, 859, 860, 76, 535, 861, 862, 863, 864, 79, 865, 116, 582, 583, 584, 585, 114, 866, 867, 868, 869, 870, 504, 505, 506, 98, 1074, 913, 914, 915, 459, 916, 917, 918, 919, 920, 921, 475, 476, 477, 91, 85, 86, 87, 478, 479, 480, 481, 1075, 1016, 1017, 1018, 1019, 1076, 1031, 1032, 1033, 1077, 1051, 1052, 1053, 60, 61, 62, 1054, 1078, 1079, 1080, 1081, 1082, 951, 952, 953, 954, 1094, 1095, 1096, 1097, 1098, 1099, 1100, 1112, 1113, 1114, 1115, 1116, 1117, 1118, 1119, 1120, 1121, 1122, 1123, 1124, 1125, 1126, 1127, 1128, 1129, 1130, 1131, 1132, 1133, 1134, 1135, 1136, 1137, 1138, 1139, 1140, 1141, 1142, 1143] (by decide +kernel) (by decide +kernel)) (goodIn_sub (fun _ h => List.mem_append_left _ (List.mem_append_right _ h)) (by decide +kernel))) (goodIn_sub (fun _ h => List.mem_append_right _ h) (by decide +kernel))
set_option maxRecDepth 20000 in
theorem gL_law_X6_digest : GoodIn wsL_law (wsV RL 172 RX6 yX6_digest wsX6_digest) := goodIn_app (goodIn_of _ (by decide +kernel)) ggL_law_X6_digest
set_option maxRecDepth 20000 in
theorem ggL_law_X10_digest : GoodIn wsL_law wsX10_digest := goodIn_r _ [1086, 134, 1087, 1088, 29, 282, 926, 878, 997, 998, 999, 5, 1000, 96, 30, 610, 599, 712, 711, 880, 733, 734, 28, 735, 736, 737, 738, 739, 740, 741, 742, 743, 12, 13, 744, 745, 169, 746, 881, 748, 749, 750, 751, 882, 753, 754, 755, 756, 757, 758, 759, 760, 433, 434, 435, 137, 436, 316, 156, 158, 145, 146, 147, 148, 149, 1089, 1090, 1091, 1092, 1093, 875, 876, 877, 879, 782, 783, 784, 160, 27, 163, 32, 33, 34, 35, 36, 37, 38, 39, 40, 41, 42, 43, 44, 45, 785, 786, 787, 788, 789, 726, 727, 728, 161, 729, 730, 210, 184, 211, 731, 714, 715, 716, 732, 747, 752, 790, 762, 763, 764, 765, 766, 767, 598, 768, 603, 769, 770, 288, 289, 290, 291, 292, 293, 294, 295, 296, 297, 298, 299, 300, 301, 302, 791, 792, 793, 794, 795, 796, 797, 798, 799, 800, 801, 802, 803, 804, 805, 806, 807, 808, 809, 810, 811, 812, 813, 814, 815, 816, 154, 139, 140, 817, 165, 166, 167, 168, 170, 171, 172, 173, 174, 175, 176, 177, 178, 179, 180, 181, 182, 183, 185, 186, 187, 188, 189, 190, 191, 192, 193, 194, 195, 196, 197, 198, 199, 200, 201, 202, 203, 204, 205, 206, 207, 208, 209, 212, 213, 214, 215, 725, 883, 884, 885, 886, 887, 888, 889, 890, 891, 892, 893, 894, 895, 162, 776, 781, 896, 931, 932, 933, 934, 1024, 1025, 1026, 135, 136, 150, 151, 152, 153, 155, 99, 157, 159, 772, 773, 774, 775, 777, 778, 779, 780, 818, 819, 820, 821, 360, 361, 362, 363, 304, 305, 306, 822, 365, 366, 367, 368, 333, 334, 335, 311, 312, 313, 314, 315, 369, 308, 309, 310, 1038, 1039, 1040, 1041, 1042, 1043, 1044, 1045, 597, 600, 601, 602, 604, 605, 1046, 612, 613, 614, 615, 616, 617, 618, 619, 480, 620, 621, 622, 623, 624, 625, 626, 627, 628, 629, 630, 631, 632, 633, 634, 635, 636, 637, 638, 639, 640, 641, 642, 643, 644, 645, 646, 647, 648, 649, 650, 651, 652, 164, 1059, 1060, 1061, 959, 960, 961, 26, 31, 962, 963, 964, 1101, 1102, 1103, 1104, 1105, 1106, 1107, 1108, 1144, 1145, 1146, 1147, 1148, 1149, 1150, 1151, 1152, 1153, 1154, 1155, 1156, 1157, 1158, 1159, 1160, 1161, 1109, 1110, 1111, 1162, 1163, 1164, 1165, 1166, 1167, 1168] (by decide +kernel) (by decide +kernel)
set_option maxRecDepth 20000 in
theorem gL_law_X10_digest : GoodIn wsL_law (wsV RL 176 RX10 yX10_digest wsX10_digest) := goodIn_app (goodIn_of _ (by decide +kernel)) ggL_law_X10_digest
theorem dL_law_0 : decode cL_law 0 = .ok (.new 8, 3) := by decide +kernel
theorem dL_law_3 : decode cL_law 3 = .ok (.dup, 1) := by decide +kernel
theorem dL_law_4 : decode cL_law 4 = .ok (.invokespecial 89, 3) := by decide +kernel
theorem dL_law_7 : decode cL_law 7 = .ok (.astore_n 1, 1) := by decide +kernel
theorem dL_law_8 : decode cL_law 8 = .ok (.new 90, 3) := by decide +kernel
theorem dL_law_11 : decode cL_law 11 = .ok (.dup, 1) := by decide +kernel
theorem dL_law_12 : decode cL_law 12 = .ok (.invokespecial 92, 3) := by decide +kernel
theorem dL_law_15 : decode cL_law 15 = .ok (.astore_n 2, 1) := by decide +kernel
theorem dL_law_16 : decode cL_law 16 = .ok (.iconst 1, 1) := by decide +kernel
theorem dL_law_17 : decode cL_law 17 = .ok (.newarray .long, 2) := by decide +kernel
theorem dL_law_19 : decode cL_law 19 = .ok (.astore_n 3, 1) := by decide +kernel
theorem dL_law_20 : decode cL_law 20 = .ok (.iconst 1, 1) := by decide +kernel
theorem dL_law_21 : decode cL_law 21 = .ok (.newarray .double, 2) := by decide +kernel
theorem dL_law_23 : decode cL_law 23 = .ok (.astore 4, 2) := by decide +kernel
theorem dL_law_25 : decode cL_law 25 = .ok (.iconst 0, 1) := by decide +kernel
theorem dL_law_26 : decode cL_law 26 = .ok (.istore 5, 2) := by decide +kernel
theorem dL_law_28 : decode cL_law 28 = .ok (.iload 5, 2) := by decide +kernel
theorem dL_law_30 : decode cL_law 30 = .ok (.aload_n 0, 1) := by decide +kernel
theorem dL_law_31 : decode cL_law 31 = .ok (.arraylength, 1) := by decide +kernel
theorem dL_law_32 : decode cL_law 32 = .ok (.bipush 6, 2) := by decide +kernel
theorem dL_law_34 : decode cL_law 34 = .ok (.isub, 1) := by decide +kernel
theorem dL_law_35 : decode cL_law 35 = .ok (.if_icmp .gt 1746, 3) := by decide +kernel
theorem dL_law_38 : decode cL_law 38 = .ok (.aload_n 0, 1) := by decide +kernel
theorem dL_law_39 : decode cL_law 39 = .ok (.iload 5, 2) := by decide +kernel
theorem dL_law_41 : decode cL_law 41 = .ok (.iaload, 1) := by decide +kernel
theorem dL_law_42 : decode cL_law 42 = .ok (.bipush 31, 2) := by decide +kernel
theorem dL_law_44 : decode cL_law 44 = .ok (.iand, 1) := by decide +kernel
theorem dL_law_45 : decode cL_law 45 = .ok (.tableswitch 1730 0 22 #[107, 163, 219, 287, 343, 463, 566, 646, 702, 758, 854, 934, 1002, 1070, 1166, 1255, 1335, 1403, 1459, 1536, 1592, 1648, 1716], 107) := by decide +kernel
theorem dL_law_152 : decode cL_law 152 = .ok (.aload_n 1, 1) := by decide +kernel
theorem dL_law_153 : decode cL_law 153 = .ok (.aload_n 0, 1) := by decide +kernel
theorem dL_law_154 : decode cL_law 154 = .ok (.iload 5, 2) := by decide +kernel
theorem dL_law_156 : decode cL_law 156 = .ok (.iconst 1, 1) := by decide +kernel
theorem dL_law_157 : decode cL_law 157 = .ok (.iadd, 1) := by decide +kernel
theorem dL_law_158 : decode cL_law 158 = .ok (.iaload, 1) := by decide +kernel
theorem dL_law_159 : decode cL_law 159 = .ok (.aload_n 3, 1) := by decide +kernel
theorem dL_law_160 : decode cL_law 160 = .ok (.invokestatic 93, 3) := by decide +kernel
theorem dL_law_163 : decode cL_law 163 = .ok (.istore 6, 2) := by decide +kernel
theorem dL_law_165 : decode cL_law 165 = .ok (.aload_n 2, 1) := by decide +kernel
theorem dL_law_166 : decode cL_law 166 = .ok (.aload_n 0, 1) := by decide +kernel
theorem dL_law_167 : decode cL_law 167 = .ok (.iload 5, 2) := by decide +kernel
theorem dL_law_169 : decode cL_law 169 = .ok (.iconst 1, 1) := by decide +kernel
theorem dL_law_170 : decode cL_law 170 = .ok (.iadd, 1) := by decide +kernel
theorem dL_law_171 : decode cL_law 171 = .ok (.iaload, 1) := by decide +kernel
theorem dL_law_172 : decode cL_law 172 = .ok (.invokevirtual 98, 3) := by decide +kernel
theorem dL_law_175 : decode cL_law 175 = .ok (.istore 7, 2) := by decide +kernel
theorem dL_law_177 : decode cL_law 177 = .ok (.aload_n 2, 1) := by decide +kernel
theorem dL_law_178 : decode cL_law 178 = .ok (.invokevirtual 99, 3) := by decide +kernel
theorem dL_law_181 : decode cL_law 181 = .ok (.iload 6, 2) := by decide +kernel
theorem dL_law_183 : decode cL_law 183 = .ok (.if_icmp .eq 5, 3) := by decide +kernel
theorem dL_law_186 : decode cL_law 186 = .ok (.iconst 0, 1) := by decide +kernel
theorem dL_law_187 : decode cL_law 187 = .ok (.ireturn, 1) := by decide +kernel
theorem dL_law_188 : decode cL_law 188 = .ok (.iload 6, 2) := by decide +kernel
theorem dL_law_190 : decode cL_law 190 = .ok (.ifCond .ne 15, 3) := by decide +kernel
theorem dL_law_193 : decode cL_law 193 = .ok (.aload_n 3, 1) := by decide +kernel
theorem dL_law_194 : decode cL_law 194 = .ok (.iconst 0, 1) := by decide +kernel
theorem dL_law_195 : decode cL_law 195 = .ok (.laload, 1) := by decide +kernel
theorem dL_law_196 : decode cL_law 196 = .ok (.iload 7, 2) := by decide +kernel
theorem dL_law_198 : decode cL_law 198 = .ok (.i2l, 1) := by decide +kernel
theorem dL_law_199 : decode cL_law 199 = .ok (.lcmp, 1) := by decide +kernel
theorem dL_law_200 : decode cL_law 200 = .ok (.ifCond .eq 5, 3) := by decide +kernel
theorem dL_law_205 : decode cL_law 205 = .ok (.goto 1570, 3) := by decide +kernel
theorem dL_law_208 : decode cL_law 208 = .ok (.aload_n 1, 1) := by decide +kernel
theorem dL_law_209 : decode cL_law 209 = .ok (.aload_n 0, 1) := by decide +kernel
theorem dL_law_210 : decode cL_law 210 = .ok (.iload 5, 2) := by decide +kernel
theorem dL_law_212 : decode cL_law 212 = .ok (.iconst 1, 1) := by decide +kernel
theorem dL_law_213 : decode cL_law 213 = .ok (.iadd, 1) := by decide +kernel
theorem dL_law_214 : decode cL_law 214 = .ok (.iaload, 1) := by decide +kernel
theorem dL_law_215 : decode cL_law 215 = .ok (.aload_n 3, 1) := by decide +kernel
theorem dL_law_216 : decode cL_law 216 = .ok (.invokestatic 103, 3) := by decide +kernel
theorem dL_law_219 : decode cL_law 219 = .ok (.istore 6, 2) := by decide +kernel
theorem dL_law_221 : decode cL_law 221 = .ok (.aload_n 2, 1) := by decide +kernel
theorem dL_law_222 : decode cL_law 222 = .ok (.aload_n 0, 1) := by decide +kernel
theorem dL_law_223 : decode cL_law 223 = .ok (.iload 5, 2) := by decide +kernel
theorem dL_law_225 : decode cL_law 225 = .ok (.iconst 1, 1) := by decide +kernel
theorem dL_law_226 : decode cL_law 226 = .ok (.iadd, 1) := by decide +kernel
theorem dL_law_227 : decode cL_law 227 = .ok (.iaload, 1) := by decide +kernel
theorem dL_law_228 : decode cL_law 228 = .ok (.invokevirtual 105, 3) := by decide +kernel
theorem dL_law_231 : decode cL_law 231 = .ok (.istore 7, 2) := by decide +kernel
theorem dL_law_233 : decode cL_law 233 = .ok (.aload_n 2, 1) := by decide +kernel
theorem dL_law_234 : decode cL_law 234 = .ok (.invokevirtual 99, 3) := by decide +kernel
theorem dL_law_237 : decode cL_law 237 = .ok (.iload 6, 2) := by decide +kernel
theorem dL_law_239 : decode cL_law 239 = .ok (.if_icmp .eq 5, 3) := by decide +kernel
theorem dL_law_242 : decode cL_law 242 = .ok (.iconst 0, 1) := by decide +kernel
theorem dL_law_243 : decode cL_law 243 = .ok (.ireturn, 1) := by decide +kernel
theorem dL_law_244 : decode cL_law 244 = .ok (.iload 6, 2) := by decide +kernel
theorem dL_law_246 : decode cL_law 246 = .ok (.ifCond .ne 15, 3) := by decide +kernel
theorem dL_law_249 : decode cL_law 249 = .ok (.aload_n 3, 1) := by decide +kernel
theorem dL_law_250 : decode cL_law 250 = .ok (.iconst 0, 1) := by decide +kernel
theorem dL_law_251 : decode cL_law 251 = .ok (.laload, 1) := by decide +kernel
theorem dL_law_252 : decode cL_law 252 = .ok (.iload 7, 2) := by decide +kernel
theorem dL_law_254 : decode cL_law 254 = .ok (.i2l, 1) := by decide +kernel
theorem dL_law_255 : decode cL_law 255 = .ok (.lcmp, 1) := by decide +kernel
theorem dL_law_256 : decode cL_law 256 = .ok (.ifCond .eq 5, 3) := by decide +kernel
theorem dL_law_261 : decode cL_law 261 = .ok (.goto 1514, 3) := by decide +kernel
theorem dL_law_264 : decode cL_law 264 = .ok (.aload_n 1, 1) := by decide +kernel
theorem dL_law_265 : decode cL_law 265 = .ok (.aload_n 0, 1) := by decide +kernel
theorem dL_law_266 : decode cL_law 266 = .ok (.iload 5, 2) := by decide +kernel
theorem dL_law_268 : decode cL_law 268 = .ok (.iconst 1, 1) := by decide +kernel
theorem dL_law_269 : decode cL_law 269 = .ok (.iadd, 1) := by decide +kernel
theorem dL_law_270 : decode cL_law 270 = .ok (.iaload, 1) := by decide +kernel
theorem dL_law_271 : decode cL_law 271 = .ok (.aload_n 0, 1) := by decide +kernel
theorem dL_law_272 : decode cL_law 272 = .ok (.iload 5, 2) := by decide +kernel
theorem dL_law_274 : decode cL_law 274 = .ok (.iconst 2, 1) := by decide +kernel
theorem dL_law_275 : decode cL_law 275 = .ok (.iadd, 1) := by decide +kernel
theorem dL_law_276 : decode cL_law 276 = .ok (.iaload, 1) := by decide +kernel
theorem dL_law_277 : decode cL_law 277 = .ok (.aload_n 3, 1) := by decide +kernel
theorem dL_law_278 : decode cL_law 278 = .ok (.invokestatic 106, 3) := by decide +kernel
theorem dL_law_281 : decode cL_law 281 = .ok (.istore 6, 2) := by decide +kernel
theorem dL_law_283 : decode cL_law 283 = .ok (.aload_n 2, 1) := by decide +kernel
theorem dL_law_284 : decode cL_law 284 = .ok (.aload_n 0, 1) := by decide +kernel
theorem dL_law_285 : decode cL_law 285 = .ok (.iload 5, 2) := by decide +kernel
theorem dL_law_287 : decode cL_law 287 = .ok (.iconst 1, 1) := by decide +kernel
theorem dL_law_288 : decode cL_law 288 = .ok (.iadd, 1) := by decide +kernel
theorem dL_law_289 : decode cL_law 289 = .ok (.iaload, 1) := by decide +kernel
theorem dL_law_290 : decode cL_law 290 = .ok (.aload_n 0, 1) := by decide +kernel
theorem dL_law_291 : decode cL_law 291 = .ok (.iload 5, 2) := by decide +kernel
theorem dL_law_293 : decode cL_law 293 = .ok (.iconst 2, 1) := by decide +kernel
theorem dL_law_294 : decode cL_law 294 = .ok (.iadd, 1) := by decide +kernel
theorem dL_law_295 : decode cL_law 295 = .ok (.iaload, 1) := by decide +kernel
theorem dL_law_296 : decode cL_law 296 = .ok (.invokevirtual 109, 3) := by decide +kernel
theorem dL_law_299 : decode cL_law 299 = .ok (.istore 7, 2) := by decide +kernel
theorem dL_law_301 : decode cL_law 301 = .ok (.aload_n 2, 1) := by decide +kernel
theorem dL_law_302 : decode cL_law 302 = .ok (.invokevirtual 99, 3) := by decide +kernel
theorem dL_law_305 : decode cL_law 305 = .ok (.iload 6, 2) := by decide +kernel
theorem dL_law_307 : decode cL_law 307 = .ok (.if_icmp .eq 5, 3) := by decide +kernel
theorem dL_law_310 : decode cL_law 310 = .ok (.iconst 0, 1) := by decide +kernel
theorem dL_law_311 : decode cL_law 311 = .ok (.ireturn, 1) := by decide +kernel
theorem dL_law_312 : decode cL_law 312 = .ok (.iload 6, 2) := by decide +kernel
theorem dL_law_314 : decode cL_law 314 = .ok (.ifCond .ne 15, 3) := by decide +kernel
theorem dL_law_329 : decode cL_law 329 = .ok (.goto 1446, 3) := by decide +kernel
theorem dL_law_332 : decode cL_law 332 = .ok (.aload_n 1, 1) := by decide +kernel
theorem dL_law_333 : decode cL_law 333 = .ok (.aload_n 0, 1) := by decide +kernel
theorem dL_law_334 : decode cL_law 334 = .ok (.iload 5, 2) := by decide +kernel
theorem dL_law_336 : decode cL_law 336 = .ok (.iconst 1, 1) := by decide +kernel
theorem dL_law_337 : decode cL_law 337 = .ok (.iadd, 1) := by decide +kernel
theorem dL_law_338 : decode cL_law 338 = .ok (.iaload, 1) := by decide +kernel
theorem dL_law_339 : decode cL_law 339 = .ok (.aload_n 3, 1) := by decide +kernel
theorem dL_law_340 : decode cL_law 340 = .ok (.invokestatic 110, 3) := by decide +kernel
theorem dL_law_343 : decode cL_law 343 = .ok (.istore 6, 2) := by decide +kernel
theorem dL_law_345 : decode cL_law 345 = .ok (.aload_n 2, 1) := by decide +kernel
theorem dL_law_346 : decode cL_law 346 = .ok (.aload_n 0, 1) := by decide +kernel
theorem dL_law_347 : decode cL_law 347 = .ok (.iload 5, 2) := by decide +kernel
theorem dL_law_349 : decode cL_law 349 = .ok (.iconst 1, 1) := by decide +kernel
theorem dL_law_350 : decode cL_law 350 = .ok (.iadd, 1) := by decide +kernel
theorem dL_law_351 : decode cL_law 351 = .ok (.iaload, 1) := by decide +kernel
theorem dL_law_352 : decode cL_law 352 = .ok (.invokevirtual 112, 3) := by decide +kernel
theorem dL_law_355 : decode cL_law 355 = .ok (.istore 7, 2) := by decide +kernel
theorem dL_law_357 : decode cL_law 357 = .ok (.aload_n 2, 1) := by decide +kernel
theorem dL_law_358 : decode cL_law 358 = .ok (.invokevirtual 99, 3) := by decide +kernel
theorem dL_law_361 : decode cL_law 361 = .ok (.iload 6, 2) := by decide +kernel
theorem dL_law_363 : decode cL_law 363 = .ok (.if_icmp .eq 5, 3) := by decide +kernel
theorem dL_law_366 : decode cL_law 366 = .ok (.iconst 0, 1) := by decide +kernel
theorem dL_law_367 : decode cL_law 367 = .ok (.ireturn, 1) := by decide +kernel
theorem dL_law_368 : decode cL_law 368 = .ok (.iload 6, 2) := by decide +kernel
theorem dL_law_370 : decode cL_law 370 = .ok (.ifCond .ne 15, 3) := by decide +kernel
theorem dL_law_385 : decode cL_law 385 = .ok (.goto 1390, 3) := by decide +kernel
theorem dL_law_388 : decode cL_law 388 = .ok (.aload_n 1, 1) := by decide +kernel
theorem dL_law_389 : decode cL_law 389 = .ok (.aload_n 0, 1) := by decide +kernel
theorem dL_law_390 : decode cL_law 390 = .ok (.iload 5, 2) := by decide +kernel
theorem dL_law_392 : decode cL_law 392 = .ok (.iconst 1, 1) := by decide +kernel
theorem dL_law_393 : decode cL_law 393 = .ok (.iadd, 1) := by decide +kernel
theorem dL_law_394 : decode cL_law 394 = .ok (.iaload, 1) := by decide +kernel
theorem dL_law_395 : decode cL_law 395 = .ok (.aload_n 0, 1) := by decide +kernel
theorem dL_law_396 : decode cL_law 396 = .ok (.iload 5, 2) := by decide +kernel
theorem dL_law_398 : decode cL_law 398 = .ok (.iconst 2, 1) := by decide +kernel
theorem dL_law_399 : decode cL_law 399 = .ok (.iadd, 1) := by decide +kernel
theorem dL_law_400 : decode cL_law 400 = .ok (.iaload, 1) := by decide +kernel
theorem dL_law_401 : decode cL_law 401 = .ok (.aload_n 0, 1) := by decide +kernel
theorem dL_law_402 : decode cL_law 402 = .ok (.iload 5, 2) := by decide +kernel
theorem dL_law_404 : decode cL_law 404 = .ok (.iconst 3, 1) := by decide +kernel
theorem dL_law_405 : decode cL_law 405 = .ok (.iadd, 1) := by decide +kernel
theorem dL_law_406 : decode cL_law 406 = .ok (.iaload, 1) := by decide +kernel
theorem dL_law_407 : decode cL_law 407 = .ok (.aload_n 0, 1) := by decide +kernel
theorem dL_law_408 : decode cL_law 408 = .ok (.iload 5, 2) := by decide +kernel
theorem dL_law_410 : decode cL_law 410 = .ok (.iconst 4, 1) := by decide +kernel
theorem dL_law_411 : decode cL_law 411 = .ok (.iadd, 1) := by decide +kernel
theorem dL_law_412 : decode cL_law 412 = .ok (.iaload, 1) := by decide +kernel
theorem dL_law_413 : decode cL_law 413 = .ok (.aload_n 0, 1) := by decide +kernel
theorem dL_law_414 : decode cL_law 414 = .ok (.iload 5, 2) := by decide +kernel
theorem dL_law_416 : decode cL_law 416 = .ok (.iconst 5, 1) := by decide +kernel
theorem dL_law_417 : decode cL_law 417 = .ok (.iadd, 1) := by decide +kernel
theorem dL_law_418 : decode cL_law 418 = .ok (.iaload, 1) := by decide +kernel
theorem dL_law_419 : decode cL_law 419 = .ok (.ifCond .eq 7, 3) := by decide +kernel
theorem dL_law_422 : decode cL_law 422 = .ok (.iconst 1, 1) := by decide +kernel
theorem dL_law_423 : decode cL_law 423 = .ok (.goto 4, 3) := by decide +kernel
theorem dL_law_426 : decode cL_law 426 = .ok (.iconst 0, 1) := by decide +kernel
