set_option maxRecDepth 20000 in
theorem ggX10_init_Jx4a65c_init_da8c8 : GoodIn wsX10_init wsJx4a65c_init_da8c8 := goodIn_r _ [11, 12, 13, 14, 15, 16, 17, 18, 19, 20, 21, 22, 23, 2, 3, 24, 25, 26] (by decide +kernel) (by decide +kernel)
set_option maxRecDepth 20000 in
theorem gX10_init_Jx4a65c_init_da8c8 : GoodIn wsX10_init (wsJx4a65c_init_da8c8) := ggX10_init_Jx4a65c_init_da8c8
theorem dX10_init_0 : decode cX10_init 0 = .ok (.aload_n 0, 1) := by decide +kernel
theorem dX10_init_1 : decode cX10_init 1 = .ok (.invokespecial 1, 3) := by decide +kernel
theorem dX10_init_4 : decode cX10_init 4 = .ok (.aload_n 0, 1) := by decide +kernel
theorem dX10_init_5 : decode cX10_init 5 = .ok (.new 7, 3) := by decide +kernel
theorem dX10_init_8 : decode cX10_init 8 = .ok (.dup, 1) := by decide +kernel
theorem dX10_init_9 : decode cX10_init 9 = .ok (.invokespecial 9, 3) := by decide +kernel
theorem dX10_init_12 : decode cX10_init 12 = .ok (.putfield 10, 3) := by decide +kernel
theorem dX10_init_15 : decode cX10_init 15 = .ok (.aload_n 0, 1) := by decide +kernel
theorem dX10_init_16 : decode cX10_init 16 = .ok (.bipush 8, 2) := by decide +kernel
theorem dX10_init_18 : decode cX10_init 18 = .ok (.putfield 16, 3) := by decide +kernel
theorem dX10_init_21 : decode cX10_init 21 = .ok (.return_, 1) := by decide +kernel
theorem dX10_thrown_0 : decode cX10_thrown 0 = .ok (.aload_n 0, 1) := by decide +kernel
theorem dX10_thrown_1 : decode cX10_thrown 1 = .ok (.getfield 20, 3) := by decide +kernel
theorem dX10_thrown_4 : decode cX10_thrown 4 = .ok (.ireturn, 1) := by decide +kernel
theorem dX10_refuse_0 : decode cX10_refuse 0 = .ok (.aload_n 0, 1) := by decide +kernel
theorem dX10_refuse_1 : decode cX10_refuse 1 = .ok (.iload_n 1, 1) := by decide +kernel
theorem dX10_refuse_2 : decode cX10_refuse 2 = .ok (.putfield 20, 3) := by decide +kernel
theorem dX10_refuse_5 : decode cX10_refuse 5 = .ok (.iconst 0, 1) := by decide +kernel
theorem dX10_refuse_6 : decode cX10_refuse 6 = .ok (.ireturn, 1) := by decide +kernel
theorem dX10_is_0 : decode cX10_is 0 = .ok (.iload_n 0, 1) := by decide +kernel
theorem dX10_is_1 : decode cX10_is 1 = .ok (.iload_n 1, 1) := by decide +kernel
theorem dX10_is_2 : decode cX10_is 2 = .ok (.if_icmp .lt 12, 3) := by decide +kernel
theorem dX10_is_5 : decode cX10_is 5 = .ok (.iload_n 0, 1) := by decide +kernel
theorem dX10_is_6 : decode cX10_is 6 = .ok (.iload_n 2, 1) := by decide +kernel
theorem dX10_is_7 : decode cX10_is 7 = .ok (.if_icmp .gt 7, 3) := by decide +kernel
theorem dX10_is_10 : decode cX10_is 10 = .ok (.iconst 1, 1) := by decide +kernel
theorem dX10_is_11 : decode cX10_is 11 = .ok (.goto 4, 3) := by decide +kernel
theorem dX10_is_14 : decode cX10_is 14 = .ok (.iconst 0, 1) := by decide +kernel
theorem dX10_is_15 : decode cX10_is 15 = .ok (.ireturn, 1) := by decide +kernel
set_option maxRecDepth 20000 in
theorem ggX10_isTrack_Jx4a65c_size_8abf5 : GoodIn wsX10_isTrack wsJx4a65c_size_8abf5 := goodIn_r _ [6, 7, 20, 21, 22] (by decide +kernel) (by decide +kernel)
set_option maxRecDepth 20000 in
theorem gX10_isTrack_Jx4a65c_size_8abf5 : GoodIn wsX10_isTrack (wsV RX10 23 RJx4a65c yJx4a65c_size_8abf5 wsJx4a65c_size_8abf5) := goodIn_app (goodIn_of _ (by decide +kernel)) ggX10_isTrack_Jx4a65c_size_8abf5
set_option maxRecDepth 20000 in
theorem ggX10_isTrack_X10_is : GoodIn wsX10_isTrack wsX10_is := goodIn_r _ [11] (by decide +kernel) (by decide +kernel)
set_option maxRecDepth 20000 in
theorem gX10_isTrack_X10_is : GoodIn wsX10_isTrack (va_wsS RX10 27 yX10_is wsX10_is) := goodIn_app (goodIn_of _ (by decide +kernel)) ggX10_isTrack_X10_is
theorem dX10_isTrack_0 : decode cX10_isTrack 0 = .ok (.iload_n 1, 1) := by decide +kernel
theorem dX10_isTrack_1 : decode cX10_isTrack 1 = .ok (.iconst 0, 1) := by decide +kernel
theorem dX10_isTrack_2 : decode cX10_isTrack 2 = .ok (.aload_n 0, 1) := by decide +kernel
theorem dX10_isTrack_3 : decode cX10_isTrack 3 = .ok (.getfield 10, 3) := by decide +kernel
theorem dX10_isTrack_6 : decode cX10_isTrack 6 = .ok (.invokevirtual 23, 3) := by decide +kernel
theorem dX10_isTrack_9 : decode cX10_isTrack 9 = .ok (.iconst 1, 1) := by decide +kernel
theorem dX10_isTrack_10 : decode cX10_isTrack 10 = .ok (.isub, 1) := by decide +kernel
theorem dX10_isTrack_11 : decode cX10_isTrack 11 = .ok (.invokestatic 27, 3) := by decide +kernel
theorem dX10_isTrack_14 : decode cX10_isTrack 14 = .ok (.ireturn, 1) := by decide +kernel
set_option maxRecDepth 20000 in
theorem ggX10_track_X10_is : GoodIn wsX10_track wsX10_is := goodIn_r _ [9] (by decide +kernel) (by decide +kernel)
set_option maxRecDepth 20000 in
theorem gX10_track_X10_is : GoodIn wsX10_track (va_wsS RX10 27 yX10_is wsX10_is) := goodIn_app (goodIn_of _ (by decide +kernel)) ggX10_track_X10_is
set_option maxRecDepth 20000 in
theorem ggX10_track_X10_refuse : GoodIn wsX10_track wsX10_refuse := goodIn_r _ [13, 1, 105, 106, 107, 108, 109, 110, 111, 112] (by decide +kernel) (by decide +kernel)
set_option maxRecDepth 20000 in
theorem gX10_track_X10_refuse : GoodIn wsX10_track (wsV RX10 31 RX10 yX10_refuse wsX10_refuse) := goodIn_app (goodIn_of _ (by decide +kernel)) ggX10_track_X10_refuse
set_option maxRecDepth 20000 in
theorem ggX10_track_Jx4a65c_size_8abf5 : GoodIn wsX10_track wsJx4a65c_size_8abf5 := goodIn_r _ [18, 19, 124, 125, 126] (by decide +kernel) (by decide +kernel)
set_option maxRecDepth 20000 in
theorem gX10_track_Jx4a65c_size_8abf5 : GoodIn wsX10_track (wsV RX10 23 RJx4a65c yJx4a65c_size_8abf5 wsJx4a65c_size_8abf5) := goodIn_app (goodIn_of _ (by decide +kernel)) ggX10_track_Jx4a65c_size_8abf5
set_option maxRecDepth 20000 in
theorem ggX10_track_X8_init : GoodIn wsX10_track wsX8_init := goodIn_r _ [22, 23, 24, 25, 26, 27, 28, 29, 30, 31, 32, 33, 34, 35, 17, 36, 37, 38, 39, 40, 41, 42, 43, 44, 45, 46, 47, 48, 49, 50, 51, 52, 113, 114, 115, 116, 117, 118, 119, 120, 121, 122, 123, 124, 125, 126] (by decide +kernel) (by decide +kernel)
set_option maxRecDepth 20000 in
theorem gX10_track_X8_init : GoodIn wsX10_track (wsX8_init) := ggX10_track_X8_init
set_option maxRecDepth 20000 in
theorem ggX10_track_Jx4a65c_add_9ea2d : GoodIn wsX10_track wsJx4a65c_add_9ea2d := goodIn_r _ [56, 57, 58, 42, 19, 59, 60, 61, 17, 62, 63, 64, 65, 66, 67, 68, 69, 70, 41, 71, 72, 73, 74, 75, 76, 77, 78, 79, 80, 81, 82, 83, 84, 85, 86, 87, 88, 89, 90, 91, 92, 93, 94, 95, 96, 97, 98, 99, 100, 101, 102, 103, 104, 124, 125, 126] (by decide +kernel) (by decide +kernel)
set_option maxRecDepth 20000 in
theorem gX10_track_Jx4a65c_add_9ea2d : GoodIn wsX10_track (wsV RX10 40 RJx4a65c yJx4a65c_add_9ea2d wsJx4a65c_add_9ea2d) := goodIn_app (goodIn_of _ (by decide +kernel)) ggX10_track_Jx4a65c_add_9ea2d
theorem dX10_track_0 : decode cX10_track 0 = .ok (.aload_n 0, 1) := by decide +kernel
theorem dX10_track_1 : decode cX10_track 1 = .ok (.iconst 0, 1) := by decide +kernel
theorem dX10_track_2 : decode cX10_track 2 = .ok (.putfield 20, 3) := by decide +kernel
theorem dX10_track_5 : decode cX10_track 5 = .ok (.iload_n 1, 1) := by decide +kernel
theorem dX10_track_6 : decode cX10_track 6 = .ok (.iconst 0, 1) := by decide +kernel
theorem dX10_track_7 : decode cX10_track 7 = .ok (.iconst 2, 1) := by decide +kernel
theorem dX10_track_8 : decode cX10_track 8 = .ok (.invokestatic 27, 3) := by decide +kernel
theorem dX10_track_11 : decode cX10_track 11 = .ok (.ifCond .ne 9, 3) := by decide +kernel
theorem dX10_track_14 : decode cX10_track 14 = .ok (.aload_n 0, 1) := by decide +kernel
theorem dX10_track_15 : decode cX10_track 15 = .ok (.iconst 1, 1) := by decide +kernel
theorem dX10_track_16 : decode cX10_track 16 = .ok (.invokevirtual 31, 3) := by decide +kernel
theorem dX10_track_19 : decode cX10_track 19 = .ok (.ireturn, 1) := by decide +kernel
theorem dX10_track_20 : decode cX10_track 20 = .ok (.aload_n 0, 1) := by decide +kernel
theorem dX10_track_21 : decode cX10_track 21 = .ok (.getfield 10, 3) := by decide +kernel
theorem dX10_track_24 : decode cX10_track 24 = .ok (.invokevirtual 23, 3) := by decide +kernel
theorem dX10_track_27 : decode cX10_track 27 = .ok (.iconst 4, 1) := by decide +kernel
theorem dX10_track_28 : decode cX10_track 28 = .ok (.if_icmp .ne 9, 3) := by decide +kernel
theorem dX10_track_31 : decode cX10_track 31 = .ok (.aload_n 0, 1) := by decide +kernel
theorem dX10_track_32 : decode cX10_track 32 = .ok (.iconst 2, 1) := by decide +kernel
theorem dX10_track_33 : decode cX10_track 33 = .ok (.invokevirtual 31, 3) := by decide +kernel
theorem dX10_track_36 : decode cX10_track 36 = .ok (.ireturn, 1) := by decide +kernel
theorem dX10_track_37 : decode cX10_track 37 = .ok (.aload_n 0, 1) := by decide +kernel
theorem dX10_track_38 : decode cX10_track 38 = .ok (.getfield 10, 3) := by decide +kernel
theorem dX10_track_41 : decode cX10_track 41 = .ok (.new 35, 3) := by decide +kernel
theorem dX10_track_44 : decode cX10_track 44 = .ok (.dup, 1) := by decide +kernel
theorem dX10_track_45 : decode cX10_track 45 = .ok (.iload_n 1, 1) := by decide +kernel
theorem dX10_track_46 : decode cX10_track 46 = .ok (.invokespecial 37, 3) := by decide +kernel
theorem dX10_track_49 : decode cX10_track 49 = .ok (.invokevirtual 40, 3) := by decide +kernel
theorem dX10_track_52 : decode cX10_track 52 = .ok (.pop, 1) := by decide +kernel
theorem dX10_track_53 : decode cX10_track 53 = .ok (.aload_n 0, 1) := by decide +kernel
theorem dX10_track_54 : decode cX10_track 54 = .ok (.getfield 10, 3) := by decide +kernel
theorem dX10_track_57 : decode cX10_track 57 = .ok (.invokevirtual 23, 3) := by decide +kernel
theorem dX10_track_60 : decode cX10_track 60 = .ok (.iconst 1, 1) := by decide +kernel
theorem dX10_track_61 : decode cX10_track 61 = .ok (.isub, 1) := by decide +kernel
theorem dX10_track_62 : decode cX10_track 62 = .ok (.ireturn, 1) := by decide +kernel
set_option maxRecDepth 20000 in
theorem ggX10_speed_X10_is : GoodIn wsX10_speed wsX10_is := goodIn_r _ [6] (by decide +kernel) (by decide +kernel)
set_option maxRecDepth 20000 in
theorem gX10_speed_X10_is : GoodIn wsX10_speed (va_wsS RX10 27 yX10_is wsX10_is) := goodIn_app (goodIn_of _ (by decide +kernel)) ggX10_speed_X10_is
set_option maxRecDepth 20000 in
theorem ggX10_speed_X10_refuse : GoodIn wsX10_speed wsX10_refuse := goodIn_r _ [10, 1, 11, 12, 13, 14, 15, 16, 17, 18] (by decide +kernel) (by decide +kernel)
set_option maxRecDepth 20000 in
theorem gX10_speed_X10_refuse : GoodIn wsX10_speed (wsV RX10 31 RX10 yX10_refuse wsX10_refuse) := goodIn_app (goodIn_of _ (by decide +kernel)) ggX10_speed_X10_refuse
theorem dX10_speed_0 : decode cX10_speed 0 = .ok (.aload_n 0, 1) := by decide +kernel
theorem dX10_speed_1 : decode cX10_speed 1 = .ok (.iconst 0, 1) := by decide +kernel
theorem dX10_speed_2 : decode cX10_speed 2 = .ok (.putfield 20, 3) := by decide +kernel
theorem dX10_speed_5 : decode cX10_speed 5 = .ok (.iload_n 1, 1) := by decide +kernel
theorem dX10_speed_6 : decode cX10_speed 6 = .ok (.bipush 6, 2) := by decide +kernel
theorem dX10_speed_8 : decode cX10_speed 8 = .ok (.bipush 11, 2) := by decide +kernel
theorem dX10_speed_10 : decode cX10_speed 10 = .ok (.invokestatic 27, 3) := by decide +kernel
theorem dX10_speed_13 : decode cX10_speed 13 = .ok (.ifCond .ne 9, 3) := by decide +kernel
theorem dX10_speed_16 : decode cX10_speed 16 = .ok (.aload_n 0, 1) := by decide +kernel
theorem dX10_speed_17 : decode cX10_speed 17 = .ok (.iconst 1, 1) := by decide +kernel
theorem dX10_speed_18 : decode cX10_speed 18 = .ok (.invokevirtual 31, 3) := by decide +kernel
theorem dX10_speed_21 : decode cX10_speed 21 = .ok (.ireturn, 1) := by decide +kernel
theorem dX10_speed_22 : decode cX10_speed 22 = .ok (.aload_n 0, 1) := by decide +kernel
theorem dX10_speed_23 : decode cX10_speed 23 = .ok (.getfield 16, 3) := by decide +kernel
theorem dX10_speed_26 : decode cX10_speed 26 = .ok (.istore_n 2, 1) := by decide +kernel
theorem dX10_speed_27 : decode cX10_speed 27 = .ok (.aload_n 0, 1) := by decide +kernel
theorem dX10_speed_28 : decode cX10_speed 28 = .ok (.iload_n 1, 1) := by decide +kernel
theorem dX10_speed_29 : decode cX10_speed 29 = .ok (.putfield 16, 3) := by decide +kernel
theorem dX10_speed_32 : decode cX10_speed 32 = .ok (.iload_n 2, 1) := by decide +kernel
theorem dX10_speed_33 : decode cX10_speed 33 = .ok (.ireturn, 1) := by decide +kernel
set_option maxRecDepth 20000 in
theorem ggX10_write_X10_isTrack : GoodIn wsX10_write wsX10_isTrack := goodIn_r _ [9, 2, 10, 11, 12, 13, 14, 15, 16, 17, 8, 18, 62, 63, 64, 65, 66, 67, 68, 69, 81, 82, 83] (by decide +kernel) (by decide +kernel)
set_option maxRecDepth 20000 in
theorem gX10_write_X10_isTrack : GoodIn wsX10_write (wsV RX10 44 RX10 yX10_isTrack wsX10_isTrack) := goodIn_app (goodIn_of _ (by decide +kernel)) ggX10_write_X10_isTrack
set_option maxRecDepth 20000 in
theorem ggX10_write_X10_refuse : GoodIn wsX10_write wsX10_refuse := goodIn_r _ [22, 1, 62, 63, 64, 65, 66, 67, 68, 69] (by decide +kernel) (by decide +kernel)
set_option maxRecDepth 20000 in
theorem gX10_write_X10_refuse : GoodIn wsX10_write (wsV RX10 31 RX10 yX10_refuse wsX10_refuse) := goodIn_app (goodIn_of _ (by decide +kernel)) ggX10_write_X10_refuse
set_option maxRecDepth 20000 in
theorem ggX10_write_X10_is : GoodIn wsX10_write wsX10_is := goodIn_r _ [18] (by decide +kernel) (by decide +kernel)
set_option maxRecDepth 20000 in
theorem gX10_write_X10_is : GoodIn wsX10_write (va_wsS RX10 27 yX10_is wsX10_is) := goodIn_app (goodIn_of _ (by decide +kernel)) ggX10_write_X10_is
set_option maxRecDepth 20000 in
theorem ggX10_write_Jx4a65c_get_915e3 : GoodIn wsX10_write wsJx4a65c_get_915e3 := goodIn_r _ [26, 15, 27, 28, 29, 30, 31, 32, 33, 34, 35, 36, 37, 13, 38, 39, 81, 82, 83] (by decide +kernel) (by decide +kernel)
set_option maxRecDepth 20000 in
theorem gX10_write_Jx4a65c_get_915e3 : GoodIn wsX10_write (wsV RX10 48 RJx4a65c yJx4a65c_get_915e3 wsJx4a65c_get_915e3) := goodIn_app (goodIn_of _ (by decide +kernel)) ggX10_write_Jx4a65c_get_915e3
set_option maxRecDepth 20000 in
theorem ggX10_write_X8_byteLong : GoodIn wsX10_write wsX8_byteLong := goodIn_r _ [44, 45, 70, 71, 72, 73, 74, 75, 76, 77, 78, 79, 80] (by decide +kernel) (by decide +kernel)
set_option maxRecDepth 20000 in
theorem gX10_write_X8_byteLong : GoodIn wsX10_write (wsV RX10 55 RX8 yX8_byteLong wsX8_byteLong) := goodIn_app (goodIn_of _ (by decide +kernel)) ggX10_write_X8_byteLong
set_option maxRecDepth 20000 in
theorem ggX10_write_X8_write : GoodIn wsX10_write wsX8_write := goodIn_r _ [49, 45, 50, 51, 52, 53, 54, 43, 55, 56, 57, 58, 59, 60, 61, 70, 71, 72, 73, 74, 75, 76, 77, 78, 79, 80] (by decide +kernel) (by decide +kernel)
set_option maxRecDepth 20000 in
theorem gX10_write_X8_write : GoodIn wsX10_write (wsV RX10 58 RX8 yX8_write wsX8_write) := goodIn_app (goodIn_of _ (by decide +kernel)) ggX10_write_X8_write
theorem dX10_write_0 : decode cX10_write 0 = .ok (.aload_n 0, 1) := by decide +kernel
theorem dX10_write_1 : decode cX10_write 1 = .ok (.iconst 0, 1) := by decide +kernel
theorem dX10_write_2 : decode cX10_write 2 = .ok (.putfield 20, 3) := by decide +kernel
theorem dX10_write_5 : decode cX10_write 5 = .ok (.aload_n 0, 1) := by decide +kernel
theorem dX10_write_6 : decode cX10_write 6 = .ok (.iload_n 1, 1) := by decide +kernel
theorem dX10_write_7 : decode cX10_write 7 = .ok (.invokevirtual 44, 3) := by decide +kernel
theorem dX10_write_10 : decode cX10_write 10 = .ok (.ifCond .ne 9, 3) := by decide +kernel
theorem dX10_write_13 : decode cX10_write 13 = .ok (.aload_n 0, 1) := by decide +kernel
theorem dX10_write_14 : decode cX10_write 14 = .ok (.iconst 1, 1) := by decide +kernel
theorem dX10_write_15 : decode cX10_write 15 = .ok (.invokevirtual 31, 3) := by decide +kernel
theorem dX10_write_18 : decode cX10_write 18 = .ok (.ireturn, 1) := by decide +kernel
theorem dX10_write_19 : decode cX10_write 19 = .ok (.iload_n 2, 1) := by decide +kernel
theorem dX10_write_20 : decode cX10_write 20 = .ok (.iconst 0, 1) := by decide +kernel
theorem dX10_write_21 : decode cX10_write 21 = .ok (.sipush 255, 3) := by decide +kernel
theorem dX10_write_24 : decode cX10_write 24 = .ok (.invokestatic 27, 3) := by decide +kernel
theorem dX10_write_27 : decode cX10_write 27 = .ok (.ifCond .ne 9, 3) := by decide +kernel
theorem dX10_write_30 : decode cX10_write 30 = .ok (.aload_n 0, 1) := by decide +kernel
theorem dX10_write_31 : decode cX10_write 31 = .ok (.iconst 2, 1) := by decide +kernel
theorem dX10_write_32 : decode cX10_write 32 = .ok (.invokevirtual 31, 3) := by decide +kernel
theorem dX10_write_35 : decode cX10_write 35 = .ok (.ireturn, 1) := by decide +kernel
theorem dX10_write_36 : decode cX10_write 36 = .ok (.aload_n 0, 1) := by decide +kernel
theorem dX10_write_37 : decode cX10_write 37 = .ok (.getfield 10, 3) := by decide +kernel
theorem dX10_write_40 : decode cX10_write 40 = .ok (.iload_n 1, 1) := by decide +kernel
theorem dX10_write_41 : decode cX10_write 41 = .ok (.invokevirtual 48, 3) := by decide +kernel
theorem dX10_write_44 : decode cX10_write 44 = .ok (.checkcast 35, 3) := by decide +kernel
theorem dX10_write_47 : decode cX10_write 47 = .ok (.astore_n 3, 1) := by decide +kernel
theorem dX10_write_48 : decode cX10_write 48 = .ok (.aload_n 3, 1) := by decide +kernel
theorem dX10_write_49 : decode cX10_write 49 = .ok (.getfield 52, 3) := by decide +kernel
theorem dX10_write_52 : decode cX10_write 52 = .ok (.aload_n 3, 1) := by decide +kernel
theorem dX10_write_53 : decode cX10_write 53 = .ok (.invokevirtual 55, 3) := by decide +kernel
theorem dX10_write_56 : decode cX10_write 56 = .ok (.iadd, 1) := by decide +kernel
theorem dX10_write_57 : decode cX10_write 57 = .ok (.sipush 400, 3) := by decide +kernel
theorem dX10_write_60 : decode cX10_write 60 = .ok (.if_icmp .le 9, 3) := by decide +kernel
theorem dX10_write_63 : decode cX10_write 63 = .ok (.aload_n 0, 1) := by decide +kernel
theorem dX10_write_64 : decode cX10_write 64 = .ok (.iconst 3, 1) := by decide +kernel
theorem dX10_write_65 : decode cX10_write 65 = .ok (.invokevirtual 31, 3) := by decide +kernel
theorem dX10_write_68 : decode cX10_write 68 = .ok (.ireturn, 1) := by decide +kernel
theorem dX10_write_69 : decode cX10_write 69 = .ok (.aload_n 3, 1) := by decide +kernel
theorem dX10_write_70 : decode cX10_write 70 = .ok (.iload_n 2, 1) := by decide +kernel
theorem dX10_write_71 : decode cX10_write 71 = .ok (.aload_n 0, 1) := by decide +kernel
theorem dX10_write_72 : decode cX10_write 72 = .ok (.getfield 16, 3) := by decide +kernel
theorem dX10_write_75 : decode cX10_write 75 = .ok (.invokevirtual 58, 3) := by decide +kernel
theorem dX10_write_78 : decode cX10_write 78 = .ok (.aload_n 3, 1) := by decide +kernel
theorem dX10_write_79 : decode cX10_write 79 = .ok (.getfield 52, 3) := by decide +kernel
theorem dX10_write_82 : decode cX10_write 82 = .ok (.ireturn, 1) := by decide +kernel
set_option maxRecDepth 20000 in
theorem ggX10_mark_X10_isTrack : GoodIn wsX10_mark wsX10_isTrack := goodIn_r _ [9, 2, 10, 11, 12, 13, 14, 15, 16, 17, 8, 18, 56, 57, 58, 59, 60, 61, 62, 63, 75, 76, 77] (by decide +kernel) (by decide +kernel)
set_option maxRecDepth 20000 in
theorem gX10_mark_X10_isTrack : GoodIn wsX10_mark (wsV RX10 44 RX10 yX10_isTrack wsX10_isTrack) := goodIn_app (goodIn_of _ (by decide +kernel)) ggX10_mark_X10_isTrack
set_option maxRecDepth 20000 in
theorem ggX10_mark_X10_refuse : GoodIn wsX10_mark wsX10_refuse := goodIn_r _ [22, 1, 56, 57, 58, 59, 60, 61, 62, 63] (by decide +kernel) (by decide +kernel)
set_option maxRecDepth 20000 in
theorem gX10_mark_X10_refuse : GoodIn wsX10_mark (wsV RX10 31 RX10 yX10_refuse wsX10_refuse) := goodIn_app (goodIn_of _ (by decide +kernel)) ggX10_mark_X10_refuse
set_option maxRecDepth 20000 in
theorem ggX10_mark_Jx4a65c_get_915e3 : GoodIn wsX10_mark wsJx4a65c_get_915e3 := goodIn_r _ [26, 15, 27, 28, 29, 30, 31, 32, 33, 34, 35, 36, 37, 13, 38, 39, 75, 76, 77] (by decide +kernel) (by decide +kernel)
set_option maxRecDepth 20000 in
theorem gX10_mark_Jx4a65c_get_915e3 : GoodIn wsX10_mark (wsV RX10 48 RJx4a65c yJx4a65c_get_915e3 wsJx4a65c_get_915e3) := goodIn_app (goodIn_of _ (by decide +kernel)) ggX10_mark_Jx4a65c_get_915e3
set_option maxRecDepth 20000 in
theorem ggX10_mark_X8_mark : GoodIn wsX10_mark wsX8_mark := goodIn_r _ [44, 45, 46, 47, 48, 43, 49, 50, 51, 52, 53, 54, 55, 64, 65, 66, 67, 68, 69, 70, 71, 72, 73, 74] (by decide +kernel) (by decide +kernel)
set_option maxRecDepth 20000 in
theorem gX10_mark_X8_mark : GoodIn wsX10_mark (wsV RX10 62 RX8 yX8_mark wsX8_mark) := goodIn_app (goodIn_of _ (by decide +kernel)) ggX10_mark_X8_mark
theorem dX10_mark_0 : decode cX10_mark 0 = .ok (.aload_n 0, 1) := by decide +kernel
theorem dX10_mark_1 : decode cX10_mark 1 = .ok (.iconst 0, 1) := by decide +kernel
theorem dX10_mark_2 : decode cX10_mark 2 = .ok (.putfield 20, 3) := by decide +kernel
theorem dX10_mark_5 : decode cX10_mark 5 = .ok (.aload_n 0, 1) := by decide +kernel
theorem dX10_mark_6 : decode cX10_mark 6 = .ok (.iload_n 1, 1) := by decide +kernel
theorem dX10_mark_7 : decode cX10_mark 7 = .ok (.invokevirtual 44, 3) := by decide +kernel
theorem dX10_mark_10 : decode cX10_mark 10 = .ok (.ifCond .ne 9, 3) := by decide +kernel
theorem dX10_mark_13 : decode cX10_mark 13 = .ok (.aload_n 0, 1) := by decide +kernel
theorem dX10_mark_14 : decode cX10_mark 14 = .ok (.iconst 1, 1) := by decide +kernel
theorem dX10_mark_15 : decode cX10_mark 15 = .ok (.invokevirtual 31, 3) := by decide +kernel
theorem dX10_mark_18 : decode cX10_mark 18 = .ok (.ireturn, 1) := by decide +kernel
theorem dX10_mark_19 : decode cX10_mark 19 = .ok (.aload_n 0, 1) := by decide +kernel
theorem dX10_mark_20 : decode cX10_mark 20 = .ok (.getfield 10, 3) := by decide +kernel
theorem dX10_mark_23 : decode cX10_mark 23 = .ok (.iload_n 1, 1) := by decide +kernel
theorem dX10_mark_24 : decode cX10_mark 24 = .ok (.invokevirtual 48, 3) := by decide +kernel
theorem dX10_mark_27 : decode cX10_mark 27 = .ok (.checkcast 35, 3) := by decide +kernel
theorem dX10_mark_30 : decode cX10_mark 30 = .ok (.astore_n 2, 1) := by decide +kernel
theorem dX10_mark_31 : decode cX10_mark 31 = .ok (.aload_n 2, 1) := by decide +kernel
theorem dX10_mark_32 : decode cX10_mark 32 = .ok (.getfield 52, 3) := by decide +kernel
theorem dX10_mark_35 : decode cX10_mark 35 = .ok (.bipush 10, 2) := by decide +kernel
theorem dX10_mark_37 : decode cX10_mark 37 = .ok (.iadd, 1) := by decide +kernel
theorem dX10_mark_38 : decode cX10_mark 38 = .ok (.sipush 400, 3) := by decide +kernel
theorem dX10_mark_41 : decode cX10_mark 41 = .ok (.if_icmp .le 9, 3) := by decide +kernel
theorem dX10_mark_44 : decode cX10_mark 44 = .ok (.aload_n 0, 1) := by decide +kernel
theorem dX10_mark_45 : decode cX10_mark 45 = .ok (.iconst 2, 1) := by decide +kernel
theorem dX10_mark_46 : decode cX10_mark 46 = .ok (.invokevirtual 31, 3) := by decide +kernel
theorem dX10_mark_49 : decode cX10_mark 49 = .ok (.ireturn, 1) := by decide +kernel
theorem dX10_mark_50 : decode cX10_mark 50 = .ok (.aload_n 2, 1) := by decide +kernel
theorem dX10_mark_51 : decode cX10_mark 51 = .ok (.aload_n 0, 1) := by decide +kernel
theorem dX10_mark_52 : decode cX10_mark 52 = .ok (.getfield 16, 3) := by decide +kernel
theorem dX10_mark_55 : decode cX10_mark 55 = .ok (.invokevirtual 62, 3) := by decide +kernel
theorem dX10_mark_58 : decode cX10_mark 58 = .ok (.aload_n 2, 1) := by decide +kernel
theorem dX10_mark_59 : decode cX10_mark 59 = .ok (.getfield 52, 3) := by decide +kernel
theorem dX10_mark_62 : decode cX10_mark 62 = .ok (.ireturn, 1) := by decide +kernel
set_option maxRecDepth 20000 in
theorem ggX10_sector_X10_isTrack : GoodIn wsX10_sector wsX10_isTrack := goodIn_r _ [12, 2, 13, 14, 15, 16, 17, 18, 19, 20, 11, 21, 77, 78, 79, 80, 81, 82, 83, 84, 96, 97, 98] (by decide +kernel) (by decide +kernel)
set_option maxRecDepth 20000 in
theorem gX10_sector_X10_isTrack : GoodIn wsX10_sector (wsV RX10 44 RX10 yX10_isTrack wsX10_isTrack) := goodIn_app (goodIn_of _ (by decide +kernel)) ggX10_sector_X10_isTrack
set_option maxRecDepth 20000 in
theorem ggX10_sector_X10_refuse : GoodIn wsX10_sector wsX10_refuse := goodIn_r _ [25, 1, 77, 78, 79, 80, 81, 82, 83, 84] (by decide +kernel) (by decide +kernel)
set_option maxRecDepth 20000 in
theorem gX10_sector_X10_refuse : GoodIn wsX10_sector (wsV RX10 31 RX10 yX10_refuse wsX10_refuse) := goodIn_app (goodIn_of _ (by decide +kernel)) ggX10_sector_X10_refuse
set_option maxRecDepth 20000 in
theorem ggX10_sector_X10_is : GoodIn wsX10_sector wsX10_is := goodIn_r _ [21] (by decide +kernel) (by decide +kernel)
set_option maxRecDepth 20000 in
theorem gX10_sector_X10_is : GoodIn wsX10_sector (va_wsS RX10 27 yX10_is wsX10_is) := goodIn_app (goodIn_of _ (by decide +kernel)) ggX10_sector_X10_is
set_option maxRecDepth 20000 in
theorem ggX10_sector_Jx4a65c_get_915e3 : GoodIn wsX10_sector wsJx4a65c_get_915e3 := goodIn_r _ [29, 18, 30, 31, 32, 33, 34, 35, 36, 37, 38, 39, 40, 16, 41, 42, 96, 97, 98] (by decide +kernel) (by decide +kernel)
set_option maxRecDepth 20000 in
theorem gX10_sector_Jx4a65c_get_915e3 : GoodIn wsX10_sector (wsV RX10 48 RJx4a65c yJx4a65c_get_915e3 wsJx4a65c_get_915e3) := goodIn_app (goodIn_of _ (by decide +kernel)) ggX10_sector_Jx4a65c_get_915e3
set_option maxRecDepth 20000 in
theorem ggX10_sector_X8_sectorLong : GoodIn wsX10_sector wsX8_sectorLong := goodIn_r _ [47, 48, 49, 50, 46, 51, 52, 85, 86, 87, 88, 89, 90, 91, 92, 93, 94, 95] (by decide +kernel) (by decide +kernel)
set_option maxRecDepth 20000 in
theorem gX10_sector_X8_sectorLong : GoodIn wsX10_sector (wsV RX10 65 RX8 yX8_sectorLong wsX8_sectorLong) := goodIn_app (goodIn_of _ (by decide +kernel)) ggX10_sector_X8_sectorLong
set_option maxRecDepth 20000 in
theorem ggX10_sector_X8_sector : GoodIn wsX10_sector wsX8_sector := goodIn_r _ [56, 57, 58, 59, 46, 60, 61, 62, 63, 64, 65, 66, 67, 68, 69, 70, 71, 72, 73, 74, 75, 52, 76, 85, 86, 87, 88, 89, 90, 91, 92, 93, 94, 95] (by decide +kernel) (by decide +kernel)
set_option maxRecDepth 20000 in
theorem gX10_sector_X8_sector : GoodIn wsX10_sector (wsV RX10 70 RX8 yX8_sector wsX8_sector) := goodIn_app (goodIn_of _ (by decide +kernel)) ggX10_sector_X8_sector
theorem dX10_sector_0 : decode cX10_sector 0 = .ok (.aload_n 0, 1) := by decide +kernel
theorem dX10_sector_1 : decode cX10_sector 1 = .ok (.iconst 0, 1) := by decide +kernel
theorem dX10_sector_2 : decode cX10_sector 2 = .ok (.putfield 20, 3) := by decide +kernel
theorem dX10_sector_5 : decode cX10_sector 5 = .ok (.aload_n 0, 1) := by decide +kernel
theorem dX10_sector_6 : decode cX10_sector 6 = .ok (.iload_n 1, 1) := by decide +kernel
theorem dX10_sector_7 : decode cX10_sector 7 = .ok (.invokevirtual 44, 3) := by decide +kernel
theorem dX10_sector_10 : decode cX10_sector 10 = .ok (.ifCond .ne 9, 3) := by decide +kernel
theorem dX10_sector_13 : decode cX10_sector 13 = .ok (.aload_n 0, 1) := by decide +kernel
theorem dX10_sector_14 : decode cX10_sector 14 = .ok (.iconst 1, 1) := by decide +kernel
theorem dX10_sector_15 : decode cX10_sector 15 = .ok (.invokevirtual 31, 3) := by decide +kernel
theorem dX10_sector_18 : decode cX10_sector 18 = .ok (.ireturn, 1) := by decide +kernel
theorem dX10_sector_19 : decode cX10_sector 19 = .ok (.iload_n 2, 1) := by decide +kernel
theorem dX10_sector_20 : decode cX10_sector 20 = .ok (.iconst 0, 1) := by decide +kernel
theorem dX10_sector_21 : decode cX10_sector 21 = .ok (.sipush 255, 3) := by decide +kernel
theorem dX10_sector_24 : decode cX10_sector 24 = .ok (.invokestatic 27, 3) := by decide +kernel
theorem dX10_sector_27 : decode cX10_sector 27 = .ok (.ifCond .eq 17, 3) := by decide +kernel
theorem dX10_sector_30 : decode cX10_sector 30 = .ok (.iload_n 3, 1) := by decide +kernel
theorem dX10_sector_31 : decode cX10_sector 31 = .ok (.iconst 1, 1) := by decide +kernel
theorem dX10_sector_32 : decode cX10_sector 32 = .ok (.iconst 4, 1) := by decide +kernel
theorem dX10_sector_33 : decode cX10_sector 33 = .ok (.invokestatic 27, 3) := by decide +kernel
theorem dX10_sector_36 : decode cX10_sector 36 = .ok (.ifCond .eq 8, 3) := by decide +kernel
theorem dX10_sector_39 : decode cX10_sector 39 = .ok (.iload 4, 2) := by decide +kernel
theorem dX10_sector_41 : decode cX10_sector 41 = .ok (.ifCond .ge 9, 3) := by decide +kernel
theorem dX10_sector_44 : decode cX10_sector 44 = .ok (.aload_n 0, 1) := by decide +kernel
theorem dX10_sector_45 : decode cX10_sector 45 = .ok (.iconst 2, 1) := by decide +kernel
theorem dX10_sector_46 : decode cX10_sector 46 = .ok (.invokevirtual 31, 3) := by decide +kernel
theorem dX10_sector_49 : decode cX10_sector 49 = .ok (.ireturn, 1) := by decide +kernel
theorem dX10_sector_50 : decode cX10_sector 50 = .ok (.aload_n 0, 1) := by decide +kernel
theorem dX10_sector_51 : decode cX10_sector 51 = .ok (.getfield 10, 3) := by decide +kernel
theorem dX10_sector_54 : decode cX10_sector 54 = .ok (.iload_n 1, 1) := by decide +kernel
theorem dX10_sector_55 : decode cX10_sector 55 = .ok (.invokevirtual 48, 3) := by decide +kernel
theorem dX10_sector_58 : decode cX10_sector 58 = .ok (.checkcast 35, 3) := by decide +kernel
theorem dX10_sector_61 : decode cX10_sector 61 = .ok (.astore 6, 2) := by decide +kernel
theorem dX10_sector_63 : decode cX10_sector 63 = .ok (.aload 6, 2) := by decide +kernel
theorem dX10_sector_65 : decode cX10_sector 65 = .ok (.getfield 52, 3) := by decide +kernel
theorem dX10_sector_68 : decode cX10_sector 68 = .ok (.aload 6, 2) := by decide +kernel
theorem dX10_sector_70 : decode cX10_sector 70 = .ok (.iload_n 3, 1) := by decide +kernel
theorem dX10_sector_71 : decode cX10_sector 71 = .ok (.invokevirtual 65, 3) := by decide +kernel
theorem dX10_sector_74 : decode cX10_sector 74 = .ok (.iadd, 1) := by decide +kernel
theorem dX10_sector_75 : decode cX10_sector 75 = .ok (.sipush 400, 3) := by decide +kernel
theorem dX10_sector_78 : decode cX10_sector 78 = .ok (.if_icmp .le 9, 3) := by decide +kernel
theorem dX10_sector_81 : decode cX10_sector 81 = .ok (.aload_n 0, 1) := by decide +kernel
theorem dX10_sector_82 : decode cX10_sector 82 = .ok (.iconst 3, 1) := by decide +kernel
theorem dX10_sector_83 : decode cX10_sector 83 = .ok (.invokevirtual 31, 3) := by decide +kernel
theorem dX10_sector_86 : decode cX10_sector 86 = .ok (.ireturn, 1) := by decide +kernel
theorem dX10_sector_87 : decode cX10_sector 87 = .ok (.iconst 4, 1) := by decide +kernel
theorem dX10_sector_88 : decode cX10_sector 88 = .ok (.newarray .int, 2) := by decide +kernel
theorem dX10_sector_90 : decode cX10_sector 90 = .ok (.dup, 1) := by decide +kernel
theorem dX10_sector_91 : decode cX10_sector 91 = .ok (.iconst 0, 1) := by decide +kernel
theorem dX10_sector_92 : decode cX10_sector 92 = .ok (.iload 4, 2) := by decide +kernel
theorem dX10_sector_94 : decode cX10_sector 94 = .ok (.sipush 256, 3) := by decide +kernel
theorem dX10_sector_97 : decode cX10_sector 97 = .ok (.irem, 1) := by decide +kernel
theorem dX10_sector_98 : decode cX10_sector 98 = .ok (.iastore, 1) := by decide +kernel
theorem dX10_sector_99 : decode cX10_sector 99 = .ok (.dup, 1) := by decide +kernel
theorem dX10_sector_100 : decode cX10_sector 100 = .ok (.iconst 1, 1) := by decide +kernel
theorem dX10_sector_101 : decode cX10_sector 101 = .ok (.iload 4, 2) := by decide +kernel
theorem dX10_sector_103 : decode cX10_sector 103 = .ok (.sipush 256, 3) := by decide +kernel
theorem dX10_sector_106 : decode cX10_sector 106 = .ok (.idiv, 1) := by decide +kernel
theorem dX10_sector_107 : decode cX10_sector 107 = .ok (.sipush 256, 3) := by decide +kernel
theorem dX10_sector_110 : decode cX10_sector 110 = .ok (.irem, 1) := by decide +kernel
theorem dX10_sector_111 : decode cX10_sector 111 = .ok (.iastore, 1) := by decide +kernel
theorem dX10_sector_112 : decode cX10_sector 112 = .ok (.dup, 1) := by decide +kernel
theorem dX10_sector_113 : decode cX10_sector 113 = .ok (.iconst 2, 1) := by decide +kernel
theorem dX10_sector_114 : decode cX10_sector 114 = .ok (.iload 4, 2) := by decide +kernel
theorem dX10_sector_116 : decode cX10_sector 116 = .ok (.ldc 68, 2) := by decide +kernel
theorem dX10_sector_118 : decode cX10_sector 118 = .ok (.idiv, 1) := by decide +kernel
theorem dX10_sector_119 : decode cX10_sector 119 = .ok (.sipush 256, 3) := by decide +kernel
theorem dX10_sector_122 : decode cX10_sector 122 = .ok (.irem, 1) := by decide +kernel
theorem dX10_sector_123 : decode cX10_sector 123 = .ok (.iastore, 1) := by decide +kernel
theorem dX10_sector_124 : decode cX10_sector 124 = .ok (.dup, 1) := by decide +kernel
theorem dX10_sector_125 : decode cX10_sector 125 = .ok (.iconst 3, 1) := by decide +kernel
theorem dX10_sector_126 : decode cX10_sector 126 = .ok (.iload 4, 2) := by decide +kernel
theorem dX10_sector_128 : decode cX10_sector 128 = .ok (.ldc 69, 2) := by decide +kernel
theorem dX10_sector_130 : decode cX10_sector 130 = .ok (.idiv, 1) := by decide +kernel
theorem dX10_sector_131 : decode cX10_sector 131 = .ok (.iastore, 1) := by decide +kernel
theorem dX10_sector_132 : decode cX10_sector 132 = .ok (.astore 7, 2) := by decide +kernel
theorem dX10_sector_134 : decode cX10_sector 134 = .ok (.aload 6, 2) := by decide +kernel
theorem dX10_sector_136 : decode cX10_sector 136 = .ok (.iload_n 2, 1) := by decide +kernel
theorem dX10_sector_137 : decode cX10_sector 137 = .ok (.iload_n 3, 1) := by decide +kernel
theorem dX10_sector_138 : decode cX10_sector 138 = .ok (.aload 7, 2) := by decide +kernel
theorem dX10_sector_140 : decode cX10_sector 140 = .ok (.iload 5, 2) := by decide +kernel
theorem dX10_sector_142 : decode cX10_sector 142 = .ok (.ifCond .eq 7, 3) := by decide +kernel
theorem dX10_sector_145 : decode cX10_sector 145 = .ok (.iconst 0, 1) := by decide +kernel
theorem dX10_sector_146 : decode cX10_sector 146 = .ok (.goto 4, 3) := by decide +kernel
theorem dX10_sector_149 : decode cX10_sector 149 = .ok (.iconst 1, 1) := by decide +kernel
theorem dX10_sector_150 : decode cX10_sector 150 = .ok (.aload_n 0, 1) := by decide +kernel
theorem dX10_sector_151 : decode cX10_sector 151 = .ok (.getfield 16, 3) := by decide +kernel
theorem dX10_sector_154 : decode cX10_sector 154 = .ok (.invokevirtual 70, 3) := by decide +kernel
theorem dX10_sector_157 : decode cX10_sector 157 = .ok (.aload 6, 2) := by decide +kernel
theorem dX10_sector_159 : decode cX10_sector 159 = .ok (.getfield 52, 3) := by decide +kernel
theorem dX10_sector_162 : decode cX10_sector 162 = .ok (.ireturn, 1) := by decide +kernel
set_option maxRecDepth 20000 in
theorem ggX10_isPlace_X10_isTrack : GoodIn wsX10_isPlace wsX10_isTrack := goodIn_r _ [7, 1, 8, 9, 10, 11, 12, 13, 14, 15, 6, 16, 34, 35, 36, 37, 38, 39, 40, 41, 53, 54, 55] (by decide +kernel) (by decide +kernel)
set_option maxRecDepth 20000 in
theorem gX10_isPlace_X10_isTrack : GoodIn wsX10_isPlace (wsV RX10 44 RX10 yX10_isTrack wsX10_isTrack) := goodIn_app (goodIn_of _ (by decide +kernel)) ggX10_isPlace_X10_isTrack
set_option maxRecDepth 20000 in
theorem ggX10_isPlace_Jx4a65c_get_915e3 : GoodIn wsX10_isPlace wsJx4a65c_get_915e3 := goodIn_r _ [20, 13, 21, 22, 23, 24, 25, 26, 27, 28, 29, 30, 31, 11, 32, 33, 53, 54, 55] (by decide +kernel) (by decide +kernel)
set_option maxRecDepth 20000 in
theorem gX10_isPlace_Jx4a65c_get_915e3 : GoodIn wsX10_isPlace (wsV RX10 48 RJx4a65c yJx4a65c_get_915e3 wsJx4a65c_get_915e3) := goodIn_app (goodIn_of _ (by decide +kernel)) ggX10_isPlace_Jx4a65c_get_915e3
set_option maxRecDepth 20000 in
theorem ggX10_isPlace_X10_is : GoodIn wsX10_isPlace wsX10_is := goodIn_r _ [16] (by decide +kernel) (by decide +kernel)
set_option maxRecDepth 20000 in
theorem gX10_isPlace_X10_is : GoodIn wsX10_isPlace (va_wsS RX10 27 yX10_is wsX10_is) := goodIn_app (goodIn_of _ (by decide +kernel)) ggX10_isPlace_X10_is
theorem dX10_isPlace_0 : decode cX10_isPlace 0 = .ok (.aload_n 0, 1) := by decide +kernel
theorem dX10_isPlace_1 : decode cX10_isPlace 1 = .ok (.iload_n 1, 1) := by decide +kernel
theorem dX10_isPlace_2 : decode cX10_isPlace 2 = .ok (.invokevirtual 44, 3) := by decide +kernel
theorem dX10_isPlace_5 : decode cX10_isPlace 5 = .ok (.ifCond .eq 31, 3) := by decide +kernel
theorem dX10_isPlace_8 : decode cX10_isPlace 8 = .ok (.iload_n 2, 1) := by decide +kernel
theorem dX10_isPlace_9 : decode cX10_isPlace 9 = .ok (.iconst 0, 1) := by decide +kernel
theorem dX10_isPlace_10 : decode cX10_isPlace 10 = .ok (.aload_n 0, 1) := by decide +kernel
theorem dX10_isPlace_11 : decode cX10_isPlace 11 = .ok (.getfield 10, 3) := by decide +kernel
theorem dX10_isPlace_14 : decode cX10_isPlace 14 = .ok (.iload_n 1, 1) := by decide +kernel
theorem dX10_isPlace_15 : decode cX10_isPlace 15 = .ok (.invokevirtual 48, 3) := by decide +kernel
theorem dX10_isPlace_18 : decode cX10_isPlace 18 = .ok (.checkcast 35, 3) := by decide +kernel
theorem dX10_isPlace_21 : decode cX10_isPlace 21 = .ok (.getfield 52, 3) := by decide +kernel
theorem dX10_isPlace_24 : decode cX10_isPlace 24 = .ok (.iconst 1, 1) := by decide +kernel
theorem dX10_isPlace_25 : decode cX10_isPlace 25 = .ok (.isub, 1) := by decide +kernel
theorem dX10_isPlace_26 : decode cX10_isPlace 26 = .ok (.invokestatic 27, 3) := by decide +kernel
theorem dX10_isPlace_29 : decode cX10_isPlace 29 = .ok (.ifCond .eq 7, 3) := by decide +kernel
theorem dX10_isPlace_32 : decode cX10_isPlace 32 = .ok (.iconst 1, 1) := by decide +kernel
theorem dX10_isPlace_33 : decode cX10_isPlace 33 = .ok (.goto 4, 3) := by decide +kernel
theorem dX10_isPlace_36 : decode cX10_isPlace 36 = .ok (.iconst 0, 1) := by decide +kernel
theorem dX10_isPlace_37 : decode cX10_isPlace 37 = .ok (.ireturn, 1) := by decide +kernel
set_option maxRecDepth 20000 in
theorem ggX10_weak_X10_isPlace : GoodIn wsX10_weak wsX10_isPlace := goodIn_r _ [8, 2, 3, 9, 10, 11, 7, 12, 13, 14, 15, 16, 17, 18, 19, 20, 21, 22, 23, 24, 25, 26, 27, 28, 29, 30, 31, 32, 33, 34, 35, 36, 37, 38, 39, 40, 41, 42, 43, 44, 45, 46, 47, 48, 49, 50, 51, 52, 53, 54, 55, 56, 57, 58, 59, 60] (by decide +kernel) (by decide +kernel)
set_option maxRecDepth 20000 in
theorem gX10_weak_X10_isPlace : GoodIn wsX10_weak (wsV RX10 74 RX10 yX10_isPlace wsX10_isPlace) := goodIn_app (goodIn_of _ (by decide +kernel)) ggX10_weak_X10_isPlace
set_option maxRecDepth 20000 in
theorem ggX10_weak_Jx4a65c_get_915e3 : GoodIn wsX10_weak wsJx4a65c_get_915e3 := goodIn_r _ [25, 18, 26, 27, 28, 29, 30, 31, 32, 33, 34, 35, 36, 16, 37, 38, 58, 59, 60] (by decide +kernel) (by decide +kernel)
set_option maxRecDepth 20000 in
theorem gX10_weak_Jx4a65c_get_915e3 : GoodIn wsX10_weak (wsV RX10 48 RJx4a65c yJx4a65c_get_915e3 wsJx4a65c_get_915e3) := goodIn_app (goodIn_of _ (by decide +kernel)) ggX10_weak_Jx4a65c_get_915e3
theorem dX10_weak_0 : decode cX10_weak 0 = .ok (.aload_n 0, 1) := by decide +kernel
theorem dX10_weak_1 : decode cX10_weak 1 = .ok (.aload_n 0, 1) := by decide +kernel
theorem dX10_weak_2 : decode cX10_weak 2 = .ok (.iload_n 1, 1) := by decide +kernel
theorem dX10_weak_3 : decode cX10_weak 3 = .ok (.iload_n 2, 1) := by decide +kernel
theorem dX10_weak_4 : decode cX10_weak 4 = .ok (.invokevirtual 74, 3) := by decide +kernel
theorem dX10_weak_7 : decode cX10_weak 7 = .ok (.ifCond .eq 7, 3) := by decide +kernel
theorem dX10_weak_10 : decode cX10_weak 10 = .ok (.iconst 0, 1) := by decide +kernel
theorem dX10_weak_11 : decode cX10_weak 11 = .ok (.goto 4, 3) := by decide +kernel
theorem dX10_weak_14 : decode cX10_weak 14 = .ok (.iconst 1, 1) := by decide +kernel
theorem dX10_weak_15 : decode cX10_weak 15 = .ok (.putfield 20, 3) := by decide +kernel
theorem dX10_weak_18 : decode cX10_weak 18 = .ok (.aload_n 0, 1) := by decide +kernel
theorem dX10_weak_19 : decode cX10_weak 19 = .ok (.getfield 20, 3) := by decide +kernel
theorem dX10_weak_22 : decode cX10_weak 22 = .ok (.ifCond .le 5, 3) := by decide +kernel
theorem dX10_weak_25 : decode cX10_weak 25 = .ok (.iconst 0, 1) := by decide +kernel
theorem dX10_weak_26 : decode cX10_weak 26 = .ok (.ireturn, 1) := by decide +kernel
theorem dX10_weak_27 : decode cX10_weak 27 = .ok (.aload_n 0, 1) := by decide +kernel
theorem dX10_weak_28 : decode cX10_weak 28 = .ok (.getfield 10, 3) := by decide +kernel
theorem dX10_weak_31 : decode cX10_weak 31 = .ok (.iload_n 1, 1) := by decide +kernel
theorem dX10_weak_32 : decode cX10_weak 32 = .ok (.invokevirtual 48, 3) := by decide +kernel
theorem dX10_weak_35 : decode cX10_weak 35 = .ok (.checkcast 35, 3) := by decide +kernel
theorem dX10_weak_38 : decode cX10_weak 38 = .ok (.getfield 78, 3) := by decide +kernel
theorem dX10_weak_41 : decode cX10_weak 41 = .ok (.iload_n 2, 1) := by decide +kernel
theorem dX10_weak_42 : decode cX10_weak 42 = .ok (.baload, 1) := by decide +kernel
theorem dX10_weak_43 : decode cX10_weak 43 = .ok (.istore 4, 2) := by decide +kernel
theorem dX10_weak_45 : decode cX10_weak 45 = .ok (.aload_n 0, 1) := by decide +kernel
theorem dX10_weak_46 : decode cX10_weak 46 = .ok (.getfield 10, 3) := by decide +kernel
theorem dX10_weak_49 : decode cX10_weak 49 = .ok (.iload_n 1, 1) := by decide +kernel
theorem dX10_weak_50 : decode cX10_weak 50 = .ok (.invokevirtual 48, 3) := by decide +kernel
theorem dX10_weak_53 : decode cX10_weak 53 = .ok (.checkcast 35, 3) := by decide +kernel
theorem dX10_weak_56 : decode cX10_weak 56 = .ok (.getfield 78, 3) := by decide +kernel
theorem dX10_weak_59 : decode cX10_weak 59 = .ok (.iload_n 2, 1) := by decide +kernel
theorem dX10_weak_60 : decode cX10_weak 60 = .ok (.iload_n 3, 1) := by decide +kernel
theorem dX10_weak_61 : decode cX10_weak 61 = .ok (.bastore, 1) := by decide +kernel
theorem dX10_weak_62 : decode cX10_weak 62 = .ok (.iload 4, 2) := by decide +kernel
theorem dX10_weak_64 : decode cX10_weak 64 = .ok (.ireturn, 1) := by decide +kernel
set_option maxRecDepth 20000 in
theorem ggX10_dirt_X10_isPlace : GoodIn wsX10_dirt wsX10_isPlace := goodIn_r _ [8, 2, 3, 9, 10, 11, 7, 12, 13, 14, 15, 16, 17, 18, 19, 20, 21, 22, 23, 24, 25, 26, 27, 28, 29, 30, 31, 32, 33, 34, 35, 36, 37, 38, 51, 52, 53, 54, 55, 56, 57, 58, 59, 60, 61, 62, 63, 64, 65, 66, 67, 68, 69, 70, 71, 72] (by decide +kernel) (by decide +kernel)
set_option maxRecDepth 20000 in
theorem gX10_dirt_X10_isPlace : GoodIn wsX10_dirt (wsV RX10 74 RX10 yX10_isPlace wsX10_isPlace) := goodIn_app (goodIn_of _ (by decide +kernel)) ggX10_dirt_X10_isPlace
set_option maxRecDepth 20000 in
theorem ggX10_dirt_X10_refuse : GoodIn wsX10_dirt wsX10_refuse := goodIn_r _ [42, 1, 51, 52, 53, 54, 55, 56, 57, 58] (by decide +kernel) (by decide +kernel)
set_option maxRecDepth 20000 in
theorem gX10_dirt_X10_refuse : GoodIn wsX10_dirt (wsV RX10 31 RX10 yX10_refuse wsX10_refuse) := goodIn_app (goodIn_of _ (by decide +kernel)) ggX10_dirt_X10_refuse
set_option maxRecDepth 20000 in
theorem ggX10_dirt_Jx4a65c_get_915e3 : GoodIn wsX10_dirt wsJx4a65c_get_915e3 := goodIn_r _ [25, 18, 26, 27, 28, 29, 30, 31, 32, 33, 34, 35, 36, 16, 37, 38, 70, 71, 72] (by decide +kernel) (by decide +kernel)
set_option maxRecDepth 20000 in
theorem gX10_dirt_Jx4a65c_get_915e3 : GoodIn wsX10_dirt (wsV RX10 48 RJx4a65c yJx4a65c_get_915e3 wsJx4a65c_get_915e3) := goodIn_app (goodIn_of _ (by decide +kernel)) ggX10_dirt_Jx4a65c_get_915e3
set_option maxRecDepth 20000 in
theorem ggX10_dirt_X8_sum : GoodIn wsX10_dirt wsX8_sum := goodIn_r _ [47, 48, 49, 50, 59, 60, 61, 62, 63, 64, 65, 66, 67, 68, 69] (by decide +kernel) (by decide +kernel)
set_option maxRecDepth 20000 in
theorem gX10_dirt_X8_sum : GoodIn wsX10_dirt (wsV RX10 89 RX8 yX8_sum wsX8_sum) := goodIn_app (goodIn_of _ (by decide +kernel)) ggX10_dirt_X8_sum
theorem dX10_dirt_0 : decode cX10_dirt 0 = .ok (.aload_n 0, 1) := by decide +kernel
theorem dX10_dirt_1 : decode cX10_dirt 1 = .ok (.iconst 0, 1) := by decide +kernel
theorem dX10_dirt_2 : decode cX10_dirt 2 = .ok (.putfield 20, 3) := by decide +kernel
theorem dX10_dirt_5 : decode cX10_dirt 5 = .ok (.aload_n 0, 1) := by decide +kernel
theorem dX10_dirt_6 : decode cX10_dirt 6 = .ok (.iload_n 1, 1) := by decide +kernel
theorem dX10_dirt_7 : decode cX10_dirt 7 = .ok (.iload_n 2, 1) := by decide +kernel
theorem dX10_dirt_8 : decode cX10_dirt 8 = .ok (.invokevirtual 74, 3) := by decide +kernel
theorem dX10_dirt_11 : decode cX10_dirt 11 = .ok (.ifCond .eq 12, 3) := by decide +kernel
theorem dX10_dirt_14 : decode cX10_dirt 14 = .ok (.aload_n 0, 1) := by decide +kernel
theorem dX10_dirt_15 : decode cX10_dirt 15 = .ok (.iload_n 1, 1) := by decide +kernel
theorem dX10_dirt_16 : decode cX10_dirt 16 = .ok (.iload_n 3, 1) := by decide +kernel
theorem dX10_dirt_17 : decode cX10_dirt 17 = .ok (.invokevirtual 74, 3) := by decide +kernel
theorem dX10_dirt_20 : decode cX10_dirt 20 = .ok (.ifCond .ne 9, 3) := by decide +kernel
theorem dX10_dirt_23 : decode cX10_dirt 23 = .ok (.aload_n 0, 1) := by decide +kernel
theorem dX10_dirt_24 : decode cX10_dirt 24 = .ok (.iconst 1, 1) := by decide +kernel
theorem dX10_dirt_25 : decode cX10_dirt 25 = .ok (.invokevirtual 31, 3) := by decide +kernel
theorem dX10_dirt_28 : decode cX10_dirt 28 = .ok (.ireturn, 1) := by decide +kernel
theorem dX10_dirt_29 : decode cX10_dirt 29 = .ok (.iload_n 3, 1) := by decide +kernel
theorem dX10_dirt_30 : decode cX10_dirt 30 = .ok (.iload_n 2, 1) := by decide +kernel
theorem dX10_dirt_31 : decode cX10_dirt 31 = .ok (.if_icmp .ge 9, 3) := by decide +kernel
theorem dX10_dirt_34 : decode cX10_dirt 34 = .ok (.aload_n 0, 1) := by decide +kernel
theorem dX10_dirt_35 : decode cX10_dirt 35 = .ok (.iconst 2, 1) := by decide +kernel
theorem dX10_dirt_36 : decode cX10_dirt 36 = .ok (.invokevirtual 31, 3) := by decide +kernel
theorem dX10_dirt_39 : decode cX10_dirt 39 = .ok (.ireturn, 1) := by decide +kernel
theorem dX10_dirt_40 : decode cX10_dirt 40 = .ok (.aload_n 0, 1) := by decide +kernel
theorem dX10_dirt_41 : decode cX10_dirt 41 = .ok (.getfield 10, 3) := by decide +kernel
theorem dX10_dirt_44 : decode cX10_dirt 44 = .ok (.iload_n 1, 1) := by decide +kernel
theorem dX10_dirt_45 : decode cX10_dirt 45 = .ok (.invokevirtual 48, 3) := by decide +kernel
theorem dX10_dirt_48 : decode cX10_dirt 48 = .ok (.checkcast 35, 3) := by decide +kernel
theorem dX10_dirt_51 : decode cX10_dirt 51 = .ok (.astore 4, 2) := by decide +kernel
theorem dX10_dirt_53 : decode cX10_dirt 53 = .ok (.iload_n 2, 1) := by decide +kernel
theorem dX10_dirt_54 : decode cX10_dirt 54 = .ok (.istore 5, 2) := by decide +kernel
theorem dX10_dirt_56 : decode cX10_dirt 56 = .ok (.iload 5, 2) := by decide +kernel
theorem dX10_dirt_58 : decode cX10_dirt 58 = .ok (.iload_n 3, 1) := by decide +kernel
theorem dX10_dirt_59 : decode cX10_dirt 59 = .ok (.if_icmp .gt 41, 3) := by decide +kernel
theorem dX10_dirt_62 : decode cX10_dirt 62 = .ok (.aload 4, 2) := by decide +kernel
theorem dX10_dirt_64 : decode cX10_dirt 64 = .ok (.getfield 82, 3) := by decide +kernel
theorem dX10_dirt_67 : decode cX10_dirt 67 = .ok (.iload 5, 2) := by decide +kernel
theorem dX10_dirt_69 : decode cX10_dirt 69 = .ok (.iaload, 1) := by decide +kernel
theorem dX10_dirt_70 : decode cX10_dirt 70 = .ok (.ifCond .eq 6, 3) := by decide +kernel
theorem dX10_dirt_73 : decode cX10_dirt 73 = .ok (.goto 21, 3) := by decide +kernel
theorem dX10_dirt_76 : decode cX10_dirt 76 = .ok (.aload 4, 2) := by decide +kernel
theorem dX10_dirt_78 : decode cX10_dirt 78 = .ok (.getfield 82, 3) := by decide +kernel
theorem dX10_dirt_81 : decode cX10_dirt 81 = .ok (.iload 5, 2) := by decide +kernel
theorem dX10_dirt_83 : decode cX10_dirt 83 = .ok (.iconst 1, 1) := by decide +kernel
theorem dX10_dirt_84 : decode cX10_dirt 84 = .ok (.iastore, 1) := by decide +kernel
theorem dX10_dirt_85 : decode cX10_dirt 85 = .ok (.aload 4, 2) := by decide +kernel
theorem dX10_dirt_87 : decode cX10_dirt 87 = .ok (.getfield 86, 3) := by decide +kernel
theorem dX10_dirt_90 : decode cX10_dirt 90 = .ok (.iload 5, 2) := by decide +kernel
theorem dX10_dirt_92 : decode cX10_dirt 92 = .ok (.iconst 0, 1) := by decide +kernel
theorem dX10_dirt_93 : decode cX10_dirt 93 = .ok (.iastore, 1) := by decide +kernel
theorem dX10_dirt_94 : decode cX10_dirt 94 = .ok (.iinc 5 1, 3) := by decide +kernel
theorem dX10_dirt_97 : decode cX10_dirt 97 = .ok (.goto (-41), 3) := by decide +kernel
theorem dX10_dirt_100 : decode cX10_dirt 100 = .ok (.aload 4, 2) := by decide +kernel
theorem dX10_dirt_102 : decode cX10_dirt 102 = .ok (.iconst 1, 1) := by decide +kernel
theorem dX10_dirt_103 : decode cX10_dirt 103 = .ok (.invokevirtual 89, 3) := by decide +kernel
theorem dX10_dirt_106 : decode cX10_dirt 106 = .ok (.ireturn, 1) := by decide +kernel
set_option maxRecDepth 20000 in
theorem ggX10_clean_X10_isTrack : GoodIn wsX10_clean wsX10_isTrack := goodIn_r _ [8, 2, 9, 10, 11, 12, 13, 14, 15, 16, 7, 17, 47, 48, 49, 50, 51, 52, 53, 54, 66, 67, 68] (by decide +kernel) (by decide +kernel)
set_option maxRecDepth 20000 in
theorem gX10_clean_X10_isTrack : GoodIn wsX10_clean (wsV RX10 44 RX10 yX10_isTrack wsX10_isTrack) := goodIn_app (goodIn_of _ (by decide +kernel)) ggX10_clean_X10_isTrack
set_option maxRecDepth 20000 in
theorem ggX10_clean_X10_refuse : GoodIn wsX10_clean wsX10_refuse := goodIn_r _ [21, 1, 47, 48, 49, 50, 51, 52, 53, 54] (by decide +kernel) (by decide +kernel)
set_option maxRecDepth 20000 in
theorem gX10_clean_X10_refuse : GoodIn wsX10_clean (wsV RX10 31 RX10 yX10_refuse wsX10_refuse) := goodIn_app (goodIn_of _ (by decide +kernel)) ggX10_clean_X10_refuse
set_option maxRecDepth 20000 in
theorem ggX10_clean_Jx4a65c_get_915e3 : GoodIn wsX10_clean wsJx4a65c_get_915e3 := goodIn_r _ [25, 14, 26, 27, 28, 29, 30, 31, 32, 33, 34, 35, 36, 12, 37, 38, 66, 67, 68] (by decide +kernel) (by decide +kernel)
set_option maxRecDepth 20000 in
theorem gX10_clean_Jx4a65c_get_915e3 : GoodIn wsX10_clean (wsV RX10 48 RJx4a65c yJx4a65c_get_915e3 wsJx4a65c_get_915e3) := goodIn_app (goodIn_of _ (by decide +kernel)) ggX10_clean_Jx4a65c_get_915e3
set_option maxRecDepth 20000 in
theorem ggX10_clean_X8_sum : GoodIn wsX10_clean wsX8_sum := goodIn_r _ [43, 44, 45, 46, 55, 56, 57, 58, 59, 60, 61, 62, 63, 64, 65] (by decide +kernel) (by decide +kernel)
set_option maxRecDepth 20000 in
theorem gX10_clean_X8_sum : GoodIn wsX10_clean (wsV RX10 89 RX8 yX8_sum wsX8_sum) := goodIn_app (goodIn_of _ (by decide +kernel)) ggX10_clean_X8_sum
theorem dX10_clean_0 : decode cX10_clean 0 = .ok (.aload_n 0, 1) := by decide +kernel
theorem dX10_clean_1 : decode cX10_clean 1 = .ok (.iconst 0, 1) := by decide +kernel
theorem dX10_clean_2 : decode cX10_clean 2 = .ok (.putfield 20, 3) := by decide +kernel
theorem dX10_clean_5 : decode cX10_clean 5 = .ok (.aload_n 0, 1) := by decide +kernel
theorem dX10_clean_6 : decode cX10_clean 6 = .ok (.iload_n 1, 1) := by decide +kernel
theorem dX10_clean_7 : decode cX10_clean 7 = .ok (.invokevirtual 44, 3) := by decide +kernel
theorem dX10_clean_10 : decode cX10_clean 10 = .ok (.ifCond .ne 9, 3) := by decide +kernel
theorem dX10_clean_13 : decode cX10_clean 13 = .ok (.aload_n 0, 1) := by decide +kernel
theorem dX10_clean_14 : decode cX10_clean 14 = .ok (.iconst 1, 1) := by decide +kernel
theorem dX10_clean_15 : decode cX10_clean 15 = .ok (.invokevirtual 31, 3) := by decide +kernel
theorem dX10_clean_18 : decode cX10_clean 18 = .ok (.ireturn, 1) := by decide +kernel
theorem dX10_clean_19 : decode cX10_clean 19 = .ok (.aload_n 0, 1) := by decide +kernel
theorem dX10_clean_20 : decode cX10_clean 20 = .ok (.getfield 10, 3) := by decide +kernel
theorem dX10_clean_23 : decode cX10_clean 23 = .ok (.iload_n 1, 1) := by decide +kernel
theorem dX10_clean_24 : decode cX10_clean 24 = .ok (.invokevirtual 48, 3) := by decide +kernel
theorem dX10_clean_27 : decode cX10_clean 27 = .ok (.checkcast 35, 3) := by decide +kernel
theorem dX10_clean_30 : decode cX10_clean 30 = .ok (.astore_n 2, 1) := by decide +kernel
theorem dX10_clean_31 : decode cX10_clean 31 = .ok (.iconst 0, 1) := by decide +kernel
theorem dX10_clean_32 : decode cX10_clean 32 = .ok (.istore_n 3, 1) := by decide +kernel
theorem dX10_clean_33 : decode cX10_clean 33 = .ok (.iload_n 3, 1) := by decide +kernel
theorem dX10_clean_34 : decode cX10_clean 34 = .ok (.aload_n 2, 1) := by decide +kernel
theorem dX10_clean_35 : decode cX10_clean 35 = .ok (.getfield 52, 3) := by decide +kernel
theorem dX10_clean_38 : decode cX10_clean 38 = .ok (.if_icmp .ge 26, 3) := by decide +kernel
theorem dX10_clean_41 : decode cX10_clean 41 = .ok (.aload_n 2, 1) := by decide +kernel
theorem dX10_clean_42 : decode cX10_clean 42 = .ok (.getfield 82, 3) := by decide +kernel
theorem dX10_clean_45 : decode cX10_clean 45 = .ok (.iload_n 3, 1) := by decide +kernel
theorem dX10_clean_46 : decode cX10_clean 46 = .ok (.iaload, 1) := by decide +kernel
theorem dX10_clean_47 : decode cX10_clean 47 = .ok (.iconst 1, 1) := by decide +kernel
theorem dX10_clean_48 : decode cX10_clean 48 = .ok (.if_icmp .ne 10, 3) := by decide +kernel
theorem dX10_clean_51 : decode cX10_clean 51 = .ok (.aload_n 2, 1) := by decide +kernel
theorem dX10_clean_52 : decode cX10_clean 52 = .ok (.getfield 82, 3) := by decide +kernel
theorem dX10_clean_55 : decode cX10_clean 55 = .ok (.iload_n 3, 1) := by decide +kernel
theorem dX10_clean_56 : decode cX10_clean 56 = .ok (.iconst 0, 1) := by decide +kernel
theorem dX10_clean_57 : decode cX10_clean 57 = .ok (.iastore, 1) := by decide +kernel
theorem dX10_clean_58 : decode cX10_clean 58 = .ok (.iinc 3 1, 3) := by decide +kernel
theorem dX10_clean_61 : decode cX10_clean 61 = .ok (.goto (-28), 3) := by decide +kernel
theorem dX10_clean_64 : decode cX10_clean 64 = .ok (.aload_n 2, 1) := by decide +kernel
theorem dX10_clean_65 : decode cX10_clean 65 = .ok (.iconst 2, 1) := by decide +kernel
theorem dX10_clean_66 : decode cX10_clean 66 = .ok (.invokevirtual 89, 3) := by decide +kernel
theorem dX10_clean_69 : decode cX10_clean 69 = .ok (.ireturn, 1) := by decide +kernel
theorem dX10_comes_0 : decode cX10_comes 0 = .ok (.aload_n 1, 1) := by decide +kernel
theorem dX10_comes_1 : decode cX10_comes 1 = .ok (.getfield 82, 3) := by decide +kernel
theorem dX10_comes_4 : decode cX10_comes 4 = .ok (.iload_n 2, 1) := by decide +kernel
theorem dX10_comes_5 : decode cX10_comes 5 = .ok (.iaload, 1) := by decide +kernel
theorem dX10_comes_6 : decode cX10_comes 6 = .ok (.ifCond .eq 37, 3) := by decide +kernel
theorem dX10_comes_9 : decode cX10_comes 9 = .ok (.aload_n 1, 1) := by decide +kernel
theorem dX10_comes_10 : decode cX10_comes 10 = .ok (.getfield 82, 3) := by decide +kernel
theorem dX10_comes_13 : decode cX10_comes 13 = .ok (.iload_n 2, 1) := by decide +kernel
theorem dX10_comes_14 : decode cX10_comes 14 = .ok (.iaload, 1) := by decide +kernel
theorem dX10_comes_15 : decode cX10_comes 15 = .ok (.iconst 1, 1) := by decide +kernel
theorem dX10_comes_16 : decode cX10_comes 16 = .ok (.if_icmp .ne 25, 3) := by decide +kernel
theorem dX10_comes_19 : decode cX10_comes 19 = .ok (.aload_n 1, 1) := by decide +kernel
theorem dX10_comes_20 : decode cX10_comes 20 = .ok (.getfield 86, 3) := by decide +kernel
theorem dX10_comes_23 : decode cX10_comes 23 = .ok (.iload_n 2, 1) := by decide +kernel
theorem dX10_comes_24 : decode cX10_comes 24 = .ok (.dup2, 1) := by decide +kernel
theorem dX10_comes_25 : decode cX10_comes 25 = .ok (.iaload, 1) := by decide +kernel
theorem dX10_comes_26 : decode cX10_comes 26 = .ok (.iconst 1, 1) := by decide +kernel
theorem dX10_comes_27 : decode cX10_comes 27 = .ok (.iadd, 1) := by decide +kernel
theorem dX10_comes_28 : decode cX10_comes 28 = .ok (.dup_x2, 1) := by decide +kernel
theorem dX10_comes_29 : decode cX10_comes 29 = .ok (.iastore, 1) := by decide +kernel
theorem dX10_comes_30 : decode cX10_comes 30 = .ok (.iconst 2, 1) := by decide +kernel
theorem dX10_comes_31 : decode cX10_comes 31 = .ok (.if_icmp .ne 10, 3) := by decide +kernel
theorem dX10_comes_34 : decode cX10_comes 34 = .ok (.aload_n 1, 1) := by decide +kernel
theorem dX10_comes_35 : decode cX10_comes 35 = .ok (.getfield 82, 3) := by decide +kernel
theorem dX10_comes_38 : decode cX10_comes 38 = .ok (.iload_n 2, 1) := by decide +kernel
theorem dX10_comes_39 : decode cX10_comes 39 = .ok (.iconst 2, 1) := by decide +kernel
theorem dX10_comes_40 : decode cX10_comes 40 = .ok (.iastore, 1) := by decide +kernel
theorem dX10_comes_41 : decode cX10_comes 41 = .ok (.iconst 0, 1) := by decide +kernel
theorem dX10_comes_42 : decode cX10_comes 42 = .ok (.ireturn, 1) := by decide +kernel
theorem dX10_comes_43 : decode cX10_comes 43 = .ok (.aload_n 1, 1) := by decide +kernel
theorem dX10_comes_44 : decode cX10_comes 44 = .ok (.getfield 78, 3) := by decide +kernel
theorem dX10_comes_47 : decode cX10_comes 47 = .ok (.iload_n 2, 1) := by decide +kernel
theorem dX10_comes_48 : decode cX10_comes 48 = .ok (.baload, 1) := by decide +kernel
theorem dX10_comes_49 : decode cX10_comes 49 = .ok (.ifCond .ne 10, 3) := by decide +kernel
theorem dX10_comes_52 : decode cX10_comes 52 = .ok (.aload_n 1, 1) := by decide +kernel
theorem dX10_comes_53 : decode cX10_comes 53 = .ok (.getfield 92, 3) := by decide +kernel
theorem dX10_comes_56 : decode cX10_comes 56 = .ok (.iload_n 2, 1) := by decide +kernel
theorem dX10_comes_57 : decode cX10_comes 57 = .ok (.iaload, 1) := by decide +kernel
theorem dX10_comes_58 : decode cX10_comes 58 = .ok (.ireturn, 1) := by decide +kernel
theorem dX10_comes_59 : decode cX10_comes 59 = .ok (.aload_n 0, 1) := by decide +kernel
theorem dX10_comes_60 : decode cX10_comes 60 = .ok (.iconst 5, 1) := by decide +kernel
theorem dX10_comes_61 : decode cX10_comes 61 = .ok (.aload_n 0, 1) := by decide +kernel
theorem dX10_comes_62 : decode cX10_comes 62 = .ok (.getfield 95, 3) := by decide +kernel
theorem dX10_comes_65 : decode cX10_comes 65 = .ok (.imul, 1) := by decide +kernel
theorem dX10_comes_66 : decode cX10_comes 66 = .ok (.bipush 7, 2) := by decide +kernel
theorem dX10_comes_68 : decode cX10_comes 68 = .ok (.iadd, 1) := by decide +kernel
theorem dX10_comes_69 : decode cX10_comes 69 = .ok (.bipush 16, 2) := by decide +kernel
theorem dX10_comes_71 : decode cX10_comes 71 = .ok (.irem, 1) := by decide +kernel
theorem dX10_comes_72 : decode cX10_comes 72 = .ok (.putfield 95, 3) := by decide +kernel
theorem dX10_comes_75 : decode cX10_comes 75 = .ok (.aload_n 0, 1) := by decide +kernel
theorem dX10_comes_76 : decode cX10_comes 76 = .ok (.getfield 95, 3) := by decide +kernel
theorem dX10_comes_79 : decode cX10_comes 79 = .ok (.bipush 7, 2) := by decide +kernel
theorem dX10_comes_81 : decode cX10_comes 81 = .ok (.if_icmp .le 7, 3) := by decide +kernel
theorem dX10_comes_84 : decode cX10_comes 84 = .ok (.iconst 1, 1) := by decide +kernel
theorem dX10_comes_85 : decode cX10_comes 85 = .ok (.goto 4, 3) := by decide +kernel
theorem dX10_comes_88 : decode cX10_comes 88 = .ok (.iconst 0, 1) := by decide +kernel
theorem dX10_comes_89 : decode cX10_comes 89 = .ok (.ireturn, 1) := by decide +kernel
set_option maxRecDepth 20000 in
theorem ggX10_read_X10_isTrack : GoodIn wsX10_read wsX10_isTrack := goodIn_r _ [12, 2, 13, 14, 15, 16, 17, 18, 19, 20, 11, 21, 162, 163, 164, 165, 166, 167, 168, 169, 184, 185, 186] (by decide +kernel) (by decide +kernel)
set_option maxRecDepth 20000 in
theorem gX10_read_X10_isTrack : GoodIn wsX10_read (wsV RX10 44 RX10 yX10_isTrack wsX10_isTrack) := goodIn_app (goodIn_of _ (by decide +kernel)) ggX10_read_X10_isTrack
set_option maxRecDepth 20000 in
theorem ggX10_read_X10_refuse : GoodIn wsX10_read wsX10_refuse := goodIn_r _ [25, 1, 162, 163, 164, 165, 166, 167, 168, 169] (by decide +kernel) (by decide +kernel)
set_option maxRecDepth 20000 in
theorem gX10_read_X10_refuse : GoodIn wsX10_read (wsV RX10 31 RX10 yX10_refuse wsX10_refuse) := goodIn_app (goodIn_of _ (by decide +kernel)) ggX10_read_X10_refuse
set_option maxRecDepth 20000 in
theorem ggX10_read_Jx4a65c_get_915e3 : GoodIn wsX10_read wsJx4a65c_get_915e3 := goodIn_r _ [29, 18, 30, 31, 32, 33, 34, 35, 36, 37, 38, 39, 40, 16, 41, 42, 184, 185, 186] (by decide +kernel) (by decide +kernel)
set_option maxRecDepth 20000 in
theorem gX10_read_Jx4a65c_get_915e3 : GoodIn wsX10_read (wsV RX10 48 RJx4a65c yJx4a65c_get_915e3 wsJx4a65c_get_915e3) := goodIn_app (goodIn_of _ (by decide +kernel)) ggX10_read_Jx4a65c_get_915e3
set_option maxRecDepth 20000 in
theorem ggX10_read_X9_init : GoodIn wsX10_read wsX9_init := goodIn_r _ [44, 45, 46, 47, 48, 49, 50, 51, 181, 182, 183] (by decide +kernel) (by decide +kernel)
set_option maxRecDepth 20000 in
theorem gX10_read_X9_init_n100 : GoodIn wsX10_read (wsX9_init) := ggX10_read_X9_init
set_option maxRecDepth 20000 in
theorem ggX10_read_X10_comes : GoodIn wsX10_read wsX10_comes := goodIn_r _ [55, 56, 170, 171, 172, 173, 174, 175, 176, 177, 178, 179, 180, 162, 163, 164, 165, 166, 167, 168, 169] (by decide +kernel) (by decide +kernel)
set_option maxRecDepth 20000 in
theorem gX10_read_X10_comes : GoodIn wsX10_read (wsV RX10 104 RX10 yX10_comes wsX10_comes) := goodIn_app (goodIn_of _ (by decide +kernel)) ggX10_read_X10_comes
set_option maxRecDepth 20000 in
theorem ggX10_read_X9_hear : GoodIn wsX10_read wsX9_hear := goodIn_r _ [60, 51, 61, 62, 63, 64, 65, 66, 67, 68, 69, 70, 71, 72, 73, 74, 75, 76, 77, 78, 79, 80, 81, 82, 83, 84, 85, 86, 87, 88, 89, 90, 91, 92, 93, 94, 6, 95, 96, 49, 97, 98, 99, 181, 182, 183] (by decide +kernel) (by decide +kernel)
set_option maxRecDepth 20000 in
theorem gX10_read_X9_hear : GoodIn wsX10_read (wsV RX10 108 RX9 yX9_hear wsX9_hear) := goodIn_app (goodIn_of _ (by decide +kernel)) ggX10_read_X9_hear
set_option maxRecDepth 20000 in
theorem ggX10_read_Jx4a65c_add_9ea2d : GoodIn wsX10_read wsJx4a65c_add_9ea2d := goodIn_r _ [103, 104, 105, 42, 18, 106, 107, 108, 16, 109, 110, 111, 112, 113, 114, 115, 116, 117, 118, 119, 120, 121, 122, 123, 124, 125, 126, 127, 128, 129, 130, 131, 132, 133, 134, 135, 136, 137, 138, 139, 140, 141, 142, 143, 144, 145, 146, 147, 148, 149, 150, 151, 152, 184, 185, 186] (by decide +kernel) (by decide +kernel)
set_option maxRecDepth 20000 in
theorem gX10_read_Jx4a65c_add_9ea2d : GoodIn wsX10_read (wsV RX10 40 RJx4a65c yJx4a65c_add_9ea2d wsJx4a65c_add_9ea2d) := goodIn_app (goodIn_of _ (by decide +kernel)) ggX10_read_Jx4a65c_add_9ea2d
set_option maxRecDepth 20000 in
theorem ggX10_read_Jx4a65c_size_8abf5 : GoodIn wsX10_read wsJx4a65c_size_8abf5 := goodIn_r _ [17, 18, 184, 185, 186] (by decide +kernel) (by decide +kernel)
set_option maxRecDepth 20000 in
theorem gX10_read_Jx4a65c_size_8abf5 : GoodIn wsX10_read (wsV RX10 23 RJx4a65c yJx4a65c_size_8abf5 wsJx4a65c_size_8abf5) := goodIn_app (goodIn_of _ (by decide +kernel)) ggX10_read_Jx4a65c_size_8abf5
set_option maxRecDepth 20000 in
theorem ggX10_read_Jx4a65c_remove_915e3 : GoodIn wsX10_read wsJx4a65c_remove_915e3 := goodIn_r _ [156, 18, 42, 30, 31, 32, 33, 34, 35, 36, 37, 157, 158, 159, 16, 160, 104, 105, 161, 150, 151, 152, 184, 185, 186] (by decide +kernel) (by decide +kernel)
set_option maxRecDepth 20000 in
theorem gX10_read_Jx4a65c_remove_915e3 : GoodIn wsX10_read (wsV RX10 114 RJx4a65c yJx4a65c_remove_915e3 wsJx4a65c_remove_915e3) := goodIn_app (goodIn_of _ (by decide +kernel)) ggX10_read_Jx4a65c_remove_915e3
theorem dX10_read_0 : decode cX10_read 0 = .ok (.aload_n 0, 1) := by decide +kernel
theorem dX10_read_1 : decode cX10_read 1 = .ok (.iconst 0, 1) := by decide +kernel
theorem dX10_read_2 : decode cX10_read 2 = .ok (.putfield 20, 3) := by decide +kernel
theorem dX10_read_5 : decode cX10_read 5 = .ok (.aload_n 0, 1) := by decide +kernel
theorem dX10_read_6 : decode cX10_read 6 = .ok (.iload_n 1, 1) := by decide +kernel
theorem dX10_read_7 : decode cX10_read 7 = .ok (.invokevirtual 44, 3) := by decide +kernel
theorem dX10_read_10 : decode cX10_read 10 = .ok (.ifCond .ne 9, 3) := by decide +kernel
theorem dX10_read_13 : decode cX10_read 13 = .ok (.aload_n 0, 1) := by decide +kernel
theorem dX10_read_14 : decode cX10_read 14 = .ok (.iconst 1, 1) := by decide +kernel
theorem dX10_read_15 : decode cX10_read 15 = .ok (.invokevirtual 31, 3) := by decide +kernel
theorem dX10_read_18 : decode cX10_read 18 = .ok (.ireturn, 1) := by decide +kernel
theorem dX10_read_19 : decode cX10_read 19 = .ok (.aload_n 0, 1) := by decide +kernel
theorem dX10_read_20 : decode cX10_read 20 = .ok (.getfield 10, 3) := by decide +kernel
theorem dX10_read_23 : decode cX10_read 23 = .ok (.iload_n 1, 1) := by decide +kernel
theorem dX10_read_24 : decode cX10_read 24 = .ok (.invokevirtual 48, 3) := by decide +kernel
theorem dX10_read_27 : decode cX10_read 27 = .ok (.checkcast 35, 3) := by decide +kernel
theorem dX10_read_30 : decode cX10_read 30 = .ok (.astore_n 2, 1) := by decide +kernel
theorem dX10_read_31 : decode cX10_read 31 = .ok (.aload_n 2, 1) := by decide +kernel
theorem dX10_read_32 : decode cX10_read 32 = .ok (.getfield 52, 3) := by decide +kernel
theorem dX10_read_35 : decode cX10_read 35 = .ok (.ifCond .ne 9, 3) := by decide +kernel
theorem dX10_read_38 : decode cX10_read 38 = .ok (.aload_n 0, 1) := by decide +kernel
theorem dX10_read_39 : decode cX10_read 39 = .ok (.iconst 2, 1) := by decide +kernel
theorem dX10_read_40 : decode cX10_read 40 = .ok (.invokevirtual 31, 3) := by decide +kernel
theorem dX10_read_43 : decode cX10_read 43 = .ok (.ireturn, 1) := by decide +kernel
theorem dX10_read_44 : decode cX10_read 44 = .ok (.new 98, 3) := by decide +kernel
theorem dX10_read_47 : decode cX10_read 47 = .ok (.dup, 1) := by decide +kernel
theorem dX10_read_48 : decode cX10_read 48 = .ok (.invokespecial 100, 3) := by decide +kernel
theorem dX10_read_51 : decode cX10_read 51 = .ok (.astore_n 3, 1) := by decide +kernel
theorem dX10_read_52 : decode cX10_read 52 = .ok (.iconst 0, 1) := by decide +kernel
theorem dX10_read_53 : decode cX10_read 53 = .ok (.istore 4, 2) := by decide +kernel
theorem dX10_read_55 : decode cX10_read 55 = .ok (.iconst 0, 1) := by decide +kernel
theorem dX10_read_56 : decode cX10_read 56 = .ok (.istore 5, 2) := by decide +kernel
theorem dX10_read_58 : decode cX10_read 58 = .ok (.iload 5, 2) := by decide +kernel
theorem dX10_read_60 : decode cX10_read 60 = .ok (.aload_n 2, 1) := by decide +kernel
theorem dX10_read_61 : decode cX10_read 61 = .ok (.getfield 52, 3) := by decide +kernel
theorem dX10_read_64 : decode cX10_read 64 = .ok (.if_icmp .ge 43, 3) := by decide +kernel
theorem dX10_read_67 : decode cX10_read 67 = .ok (.iload 4, 2) := by decide +kernel
theorem dX10_read_69 : decode cX10_read 69 = .ok (.aload_n 2, 1) := by decide +kernel
theorem dX10_read_70 : decode cX10_read 70 = .ok (.getfield 101, 3) := by decide +kernel
theorem dX10_read_73 : decode cX10_read 73 = .ok (.iload 5, 2) := by decide +kernel
theorem dX10_read_75 : decode cX10_read 75 = .ok (.iaload, 1) := by decide +kernel
theorem dX10_read_76 : decode cX10_read 76 = .ok (.iadd, 1) := by decide +kernel
theorem dX10_read_77 : decode cX10_read 77 = .ok (.istore 4, 2) := by decide +kernel
theorem dX10_read_79 : decode cX10_read 79 = .ok (.aload_n 0, 1) := by decide +kernel
theorem dX10_read_80 : decode cX10_read 80 = .ok (.aload_n 2, 1) := by decide +kernel
theorem dX10_read_81 : decode cX10_read 81 = .ok (.iload 5, 2) := by decide +kernel
theorem dX10_read_83 : decode cX10_read 83 = .ok (.invokevirtual 104, 3) := by decide +kernel
theorem dX10_read_86 : decode cX10_read 86 = .ok (.ifCond .ne 6, 3) := by decide +kernel
theorem dX10_read_89 : decode cX10_read 89 = .ok (.goto 12, 3) := by decide +kernel
theorem dX10_read_92 : decode cX10_read 92 = .ok (.aload_n 3, 1) := by decide +kernel
theorem dX10_read_93 : decode cX10_read 93 = .ok (.iload 4, 2) := by decide +kernel
theorem dX10_read_95 : decode cX10_read 95 = .ok (.invokevirtual 108, 3) := by decide +kernel
theorem dX10_read_98 : decode cX10_read 98 = .ok (.iconst 0, 1) := by decide +kernel
theorem dX10_read_99 : decode cX10_read 99 = .ok (.istore 4, 2) := by decide +kernel
theorem dX10_read_101 : decode cX10_read 101 = .ok (.iinc 5 1, 3) := by decide +kernel
theorem dX10_read_104 : decode cX10_read 104 = .ok (.goto (-46), 3) := by decide +kernel
theorem dX10_read_107 : decode cX10_read 107 = .ok (.aload_n 2, 1) := by decide +kernel
theorem dX10_read_108 : decode cX10_read 108 = .ok (.getfield 111, 3) := by decide +kernel
theorem dX10_read_111 : decode cX10_read 111 = .ok (.aload_n 3, 1) := by decide +kernel
theorem dX10_read_112 : decode cX10_read 112 = .ok (.invokevirtual 40, 3) := by decide +kernel
theorem dX10_read_115 : decode cX10_read 115 = .ok (.pop, 1) := by decide +kernel
theorem dX10_read_116 : decode cX10_read 116 = .ok (.aload_n 2, 1) := by decide +kernel
theorem dX10_read_117 : decode cX10_read 117 = .ok (.getfield 111, 3) := by decide +kernel
theorem dX10_read_120 : decode cX10_read 120 = .ok (.invokevirtual 23, 3) := by decide +kernel
theorem dX10_read_123 : decode cX10_read 123 = .ok (.iconst 3, 1) := by decide +kernel
theorem dX10_read_124 : decode cX10_read 124 = .ok (.if_icmp .le 12, 3) := by decide +kernel
theorem dX10_read_127 : decode cX10_read 127 = .ok (.aload_n 2, 1) := by decide +kernel
theorem dX10_read_128 : decode cX10_read 128 = .ok (.getfield 111, 3) := by decide +kernel
theorem dX10_read_131 : decode cX10_read 131 = .ok (.iconst 0, 1) := by decide +kernel
theorem dX10_read_132 : decode cX10_read 132 = .ok (.invokevirtual 114, 3) := by decide +kernel
theorem dX10_read_135 : decode cX10_read 135 = .ok (.pop, 1) := by decide +kernel
theorem dX10_read_136 : decode cX10_read 136 = .ok (.aload_n 2, 1) := by decide +kernel
theorem dX10_read_137 : decode cX10_read 137 = .ok (.dup, 1) := by decide +kernel
theorem dX10_read_138 : decode cX10_read 138 = .ok (.getfield 117, 3) := by decide +kernel
theorem dX10_read_141 : decode cX10_read 141 = .ok (.iconst 1, 1) := by decide +kernel
theorem dX10_read_142 : decode cX10_read 142 = .ok (.iadd, 1) := by decide +kernel
theorem dX10_read_143 : decode cX10_read 143 = .ok (.putfield 117, 3) := by decide +kernel
theorem dX10_read_146 : decode cX10_read 146 = .ok (.aload_n 0, 1) := by decide +kernel
theorem dX10_read_147 : decode cX10_read 147 = .ok (.dup, 1) := by decide +kernel
theorem dX10_read_148 : decode cX10_read 148 = .ok (.getfield 120, 3) := by decide +kernel
theorem dX10_read_151 : decode cX10_read 151 = .ok (.iconst 1, 1) := by decide +kernel
theorem dX10_read_152 : decode cX10_read 152 = .ok (.iadd, 1) := by decide +kernel
theorem dX10_read_153 : decode cX10_read 153 = .ok (.putfield 120, 3) := by decide +kernel
theorem dX10_read_156 : decode cX10_read 156 = .ok (.aload_n 3, 1) := by decide +kernel
theorem dX10_read_157 : decode cX10_read 157 = .ok (.getfield 121, 3) := by decide +kernel
theorem dX10_read_160 : decode cX10_read 160 = .ok (.ireturn, 1) := by decide +kernel
set_option maxRecDepth 20000 in
theorem ggX10_copy_X10_isTrack : GoodIn wsX10_copy wsX10_isTrack := goodIn_r _ [10, 2, 11, 12, 13, 14, 15, 16, 17, 18, 9, 19, 256, 257, 258, 259, 260, 261, 262, 263, 275, 276, 277] (by decide +kernel) (by decide +kernel)
set_option maxRecDepth 20000 in
theorem gX10_copy_X10_isTrack : GoodIn wsX10_copy (wsV RX10 44 RX10 yX10_isTrack wsX10_isTrack) := goodIn_app (goodIn_of _ (by decide +kernel)) ggX10_copy_X10_isTrack
set_option maxRecDepth 20000 in
theorem ggX10_copy_X10_refuse : GoodIn wsX10_copy wsX10_refuse := goodIn_r _ [23, 1, 256, 257, 258, 259, 260, 261, 262, 263] (by decide +kernel) (by decide +kernel)
set_option maxRecDepth 20000 in
theorem gX10_copy_X10_refuse : GoodIn wsX10_copy (wsV RX10 31 RX10 yX10_refuse wsX10_refuse) := goodIn_app (goodIn_of _ (by decide +kernel)) ggX10_copy_X10_refuse
set_option maxRecDepth 20000 in
theorem ggX10_copy_Jx4a65c_get_915e3 : GoodIn wsX10_copy wsJx4a65c_get_915e3 := goodIn_r _ [27, 16, 28, 29, 30, 31, 32, 33, 34, 35, 36, 37, 38, 14, 39, 40, 275, 276, 277] (by decide +kernel) (by decide +kernel)
set_option maxRecDepth 20000 in
theorem gX10_copy_Jx4a65c_get_915e3 : GoodIn wsX10_copy (wsV RX10 48 RJx4a65c yJx4a65c_get_915e3 wsJx4a65c_get_915e3) := goodIn_app (goodIn_of _ (by decide +kernel)) ggX10_copy_Jx4a65c_get_915e3
set_option maxRecDepth 20000 in
theorem ggX10_copy_Jx4a65c_isEmpty_aae02 : GoodIn wsX10_copy wsJx4a65c_isEmpty_aae02 := goodIn_r _ [44, 16, 275, 276, 277] (by decide +kernel) (by decide +kernel)
set_option maxRecDepth 20000 in
theorem gX10_copy_Jx4a65c_isEmpty_aae02 : GoodIn wsX10_copy (wsV RX10 122 RJx4a65c yJx4a65c_isEmpty_aae02 wsJx4a65c_isEmpty_aae02) := goodIn_app (goodIn_of _ (by decide +kernel)) ggX10_copy_Jx4a65c_isEmpty_aae02
set_option maxRecDepth 20000 in
theorem ggX10_copy_X8_clear : GoodIn wsX10_copy wsX8_clear := goodIn_r _ [49, 50, 51, 52, 53, 54, 55, 14, 56, 57, 58, 40, 16, 264, 265, 266, 267, 268, 269, 270, 271, 272, 273, 274, 275, 276, 277] (by decide +kernel) (by decide +kernel)
set_option maxRecDepth 20000 in
theorem gX10_copy_X8_clear : GoodIn wsX10_copy (wsV RX10 126 RX8 yX8_clear wsX8_clear) := goodIn_app (goodIn_of _ (by decide +kernel)) ggX10_copy_X8_clear
set_option maxRecDepth 20000 in
theorem ggX10_copy_X8_shortest : GoodIn wsX10_copy wsX8_shortest := goodIn_r _ [62, 52, 63, 64, 65, 66, 67, 68, 42, 43, 14, 44, 16, 69, 70, 71, 72, 73, 74, 75, 76, 77, 78, 79, 80, 81, 82, 83, 84, 58, 85, 86, 87, 88, 89, 90, 91, 92, 93, 94, 95, 96, 97, 98, 99, 264, 265, 266, 267, 268, 269, 270, 271, 272, 273, 274, 278, 279, 280, 275, 276, 277, 281, 282, 283, 284] (by decide +kernel) (by decide +kernel)
set_option maxRecDepth 20000 in
theorem gX10_copy_X8_shortest : GoodIn wsX10_copy (wsV RX10 132 RX8 yX8_shortest wsX8_shortest) := goodIn_app (goodIn_of _ (by decide +kernel)) ggX10_copy_X8_shortest
set_option maxRecDepth 20000 in
theorem ggX10_copy_X8_vote : GoodIn wsX10_copy wsX8_vote := goodIn_r _ [103, 52, 63, 69, 70, 71, 14, 72, 73, 74, 75, 76, 77, 78, 79, 80, 81, 82, 83, 84, 58, 85, 86, 87, 88, 89, 90, 91, 92, 93, 94, 95, 96, 97, 98, 99, 104, 105, 106, 107, 108, 109, 110, 12, 13, 15, 16, 111, 25, 26, 27, 28, 29, 30, 31, 32, 33, 34, 35, 36, 37, 38, 39, 40, 264, 265, 266, 267, 268, 269, 270, 271, 272, 273, 274, 281, 282, 283, 284, 275, 276, 277, 278, 279, 280] (by decide +kernel) (by decide +kernel)
set_option maxRecDepth 20000 in
theorem gX10_copy_X8_vote : GoodIn wsX10_copy (wsV RX10 135 RX8 yX8_vote wsX8_vote) := goodIn_app (goodIn_of _ (by decide +kernel)) ggX10_copy_X8_vote
set_option maxRecDepth 20000 in
theorem ggX10_copy_X8_add : GoodIn wsX10_copy wsX8_add := goodIn_r _ [115, 116, 50, 117, 118, 119, 120, 264, 265, 266, 267, 268, 269, 270, 271, 272, 273, 274] (by decide +kernel) (by decide +kernel)
set_option maxRecDepth 20000 in
theorem gX10_copy_X8_add : GoodIn wsX10_copy (wsV RX10 138 RX8 yX8_add wsX8_add) := goodIn_app (goodIn_of _ (by decide +kernel)) ggX10_copy_X8_add
set_option maxRecDepth 20000 in
theorem ggX10_copy_X8_plainFrom : GoodIn wsX10_copy wsX8_plainFrom := goodIn_r _ [124, 125, 50, 126, 127, 128, 48, 129, 130, 131, 14, 132, 133, 134, 135, 136, 40, 137, 138, 139, 140, 141, 142, 143, 144, 145, 146, 81, 82, 147, 148, 149, 150, 151, 152, 153, 154, 155, 156, 60, 61, 62, 52, 63, 64, 65, 66, 67, 68, 42, 43, 44, 16, 69, 70, 71, 72, 73, 74, 75, 76, 77, 78, 79, 80, 83, 84, 58, 85, 86, 87, 88, 89, 90, 91, 92, 93, 94, 95, 96, 97, 98, 99, 157, 101, 102, 103, 104, 105, 106, 107, 108, 109, 110, 12, 13, 15, 111, 25, 26, 27, 28, 29, 30, 31, 32, 33, 34, 35, 36, 37, 38, 39, 158, 159, 160, 161, 162, 163, 164, 165, 166, 167, 168, 169, 170, 171, 172, 173, 174, 175, 176, 177, 178, 179, 180, 181, 182, 183, 184, 18, 9, 19, 185, 186, 187, 188, 57, 189, 190, 191, 192, 193, 194, 195, 196, 197, 198, 199, 200, 201, 202, 203, 204, 205, 206, 207, 208, 209, 210, 211, 212, 213, 214, 215, 216, 217, 218, 219, 220, 221, 222, 223, 224, 225, 226, 227, 228, 229, 230, 231, 232, 233, 234, 235, 236, 237, 238, 239, 240, 241, 242, 243, 244, 245, 246, 247, 248, 249, 250, 51, 251, 113, 114, 115, 116, 117, 118, 119, 120, 252, 253, 254, 255, 264, 265, 266, 267, 268, 269, 270, 271, 272, 273, 274, 285, 286, 287, 288, 289, 290, 291, 275, 276, 277, 278, 279, 280, 281, 282, 283, 284] (by decide +kernel) (by decide +kernel)
set_option maxRecDepth 20000 in
theorem gX10_copy_X8_plainFrom : GoodIn wsX10_copy (wsV RX10 140 RX8 yX8_plainFrom wsX8_plainFrom) := goodIn_app (goodIn_of _ (by decide +kernel)) ggX10_copy_X8_plainFrom
theorem dX10_copy_0 : decode cX10_copy 0 = .ok (.aload_n 0, 1) := by decide +kernel
theorem dX10_copy_1 : decode cX10_copy 1 = .ok (.iconst 0, 1) := by decide +kernel
theorem dX10_copy_2 : decode cX10_copy 2 = .ok (.putfield 20, 3) := by decide +kernel
theorem dX10_copy_5 : decode cX10_copy 5 = .ok (.aload_n 0, 1) := by decide +kernel
theorem dX10_copy_6 : decode cX10_copy 6 = .ok (.iload_n 1, 1) := by decide +kernel
theorem dX10_copy_7 : decode cX10_copy 7 = .ok (.invokevirtual 44, 3) := by decide +kernel
theorem dX10_copy_10 : decode cX10_copy 10 = .ok (.ifCond .eq 11, 3) := by decide +kernel
theorem dX10_copy_13 : decode cX10_copy 13 = .ok (.aload_n 0, 1) := by decide +kernel
theorem dX10_copy_14 : decode cX10_copy 14 = .ok (.iload_n 2, 1) := by decide +kernel
theorem dX10_copy_15 : decode cX10_copy 15 = .ok (.invokevirtual 44, 3) := by decide +kernel
theorem dX10_copy_18 : decode cX10_copy 18 = .ok (.ifCond .ne 9, 3) := by decide +kernel
theorem dX10_copy_21 : decode cX10_copy 21 = .ok (.aload_n 0, 1) := by decide +kernel
theorem dX10_copy_22 : decode cX10_copy 22 = .ok (.iconst 1, 1) := by decide +kernel
theorem dX10_copy_23 : decode cX10_copy 23 = .ok (.invokevirtual 31, 3) := by decide +kernel
theorem dX10_copy_26 : decode cX10_copy 26 = .ok (.ireturn, 1) := by decide +kernel
theorem dX10_copy_27 : decode cX10_copy 27 = .ok (.iload_n 1, 1) := by decide +kernel
theorem dX10_copy_28 : decode cX10_copy 28 = .ok (.iload_n 2, 1) := by decide +kernel
theorem dX10_copy_29 : decode cX10_copy 29 = .ok (.if_icmp .ne 9, 3) := by decide +kernel
theorem dX10_copy_32 : decode cX10_copy 32 = .ok (.aload_n 0, 1) := by decide +kernel
theorem dX10_copy_33 : decode cX10_copy 33 = .ok (.iconst 2, 1) := by decide +kernel
theorem dX10_copy_34 : decode cX10_copy 34 = .ok (.invokevirtual 31, 3) := by decide +kernel
theorem dX10_copy_37 : decode cX10_copy 37 = .ok (.ireturn, 1) := by decide +kernel
theorem dX10_copy_38 : decode cX10_copy 38 = .ok (.aload_n 0, 1) := by decide +kernel
theorem dX10_copy_39 : decode cX10_copy 39 = .ok (.getfield 10, 3) := by decide +kernel
theorem dX10_copy_42 : decode cX10_copy 42 = .ok (.iload_n 1, 1) := by decide +kernel
theorem dX10_copy_43 : decode cX10_copy 43 = .ok (.invokevirtual 48, 3) := by decide +kernel
theorem dX10_copy_46 : decode cX10_copy 46 = .ok (.checkcast 35, 3) := by decide +kernel
theorem dX10_copy_49 : decode cX10_copy 49 = .ok (.astore 4, 2) := by decide +kernel
theorem dX10_copy_51 : decode cX10_copy 51 = .ok (.aload_n 0, 1) := by decide +kernel
theorem dX10_copy_52 : decode cX10_copy 52 = .ok (.getfield 10, 3) := by decide +kernel
theorem dX10_copy_55 : decode cX10_copy 55 = .ok (.iload_n 2, 1) := by decide +kernel
theorem dX10_copy_56 : decode cX10_copy 56 = .ok (.invokevirtual 48, 3) := by decide +kernel
theorem dX10_copy_59 : decode cX10_copy 59 = .ok (.checkcast 35, 3) := by decide +kernel
theorem dX10_copy_62 : decode cX10_copy 62 = .ok (.astore 5, 2) := by decide +kernel
theorem dX10_copy_64 : decode cX10_copy 64 = .ok (.aload 4, 2) := by decide +kernel
theorem dX10_copy_66 : decode cX10_copy 66 = .ok (.getfield 111, 3) := by decide +kernel
theorem dX10_copy_69 : decode cX10_copy 69 = .ok (.invokevirtual 122, 3) := by decide +kernel
theorem dX10_copy_72 : decode cX10_copy 72 = .ok (.ifCond .eq 9, 3) := by decide +kernel
theorem dX10_copy_75 : decode cX10_copy 75 = .ok (.aload_n 0, 1) := by decide +kernel
theorem dX10_copy_76 : decode cX10_copy 76 = .ok (.iconst 3, 1) := by decide +kernel
theorem dX10_copy_77 : decode cX10_copy 77 = .ok (.invokevirtual 31, 3) := by decide +kernel
theorem dX10_copy_80 : decode cX10_copy 80 = .ok (.ireturn, 1) := by decide +kernel
theorem dX10_copy_81 : decode cX10_copy 81 = .ok (.aload 5, 2) := by decide +kernel
theorem dX10_copy_83 : decode cX10_copy 83 = .ok (.invokevirtual 126, 3) := by decide +kernel
theorem dX10_copy_86 : decode cX10_copy 86 = .ok (.aload 5, 2) := by decide +kernel
theorem dX10_copy_88 : decode cX10_copy 88 = .ok (.aload 4, 2) := by decide +kernel
theorem dX10_copy_90 : decode cX10_copy 90 = .ok (.getfield 129, 3) := by decide +kernel
theorem dX10_copy_93 : decode cX10_copy 93 = .ok (.putfield 129, 3) := by decide +kernel
theorem dX10_copy_96 : decode cX10_copy 96 = .ok (.iload_n 3, 1) := by decide +kernel
theorem dX10_copy_97 : decode cX10_copy 97 = .ok (.ifCond .eq 39, 3) := by decide +kernel
theorem dX10_copy_100 : decode cX10_copy 100 = .ok (.iconst 0, 1) := by decide +kernel
theorem dX10_copy_101 : decode cX10_copy 101 = .ok (.istore 6, 2) := by decide +kernel
theorem dX10_copy_103 : decode cX10_copy 103 = .ok (.iload 6, 2) := by decide +kernel
theorem dX10_copy_105 : decode cX10_copy 105 = .ok (.aload 4, 2) := by decide +kernel
theorem dX10_copy_107 : decode cX10_copy 107 = .ok (.invokevirtual 132, 3) := by decide +kernel
theorem dX10_copy_110 : decode cX10_copy 110 = .ok (.if_icmp .ge 23, 3) := by decide +kernel
theorem dX10_copy_113 : decode cX10_copy 113 = .ok (.aload 5, 2) := by decide +kernel
theorem dX10_copy_115 : decode cX10_copy 115 = .ok (.aload 4, 2) := by decide +kernel
theorem dX10_copy_117 : decode cX10_copy 117 = .ok (.iload 6, 2) := by decide +kernel
theorem dX10_copy_119 : decode cX10_copy 119 = .ok (.invokevirtual 135, 3) := by decide +kernel
theorem dX10_copy_122 : decode cX10_copy 122 = .ok (.bipush 8, 2) := by decide +kernel
theorem dX10_copy_124 : decode cX10_copy 124 = .ok (.invokevirtual 138, 3) := by decide +kernel
theorem dX10_copy_127 : decode cX10_copy 127 = .ok (.iinc 6 1, 3) := by decide +kernel
theorem dX10_copy_130 : decode cX10_copy 130 = .ok (.goto (-27), 3) := by decide +kernel
theorem dX10_copy_133 : decode cX10_copy 133 = .ok (.goto 10, 3) := by decide +kernel
theorem dX10_copy_136 : decode cX10_copy 136 = .ok (.aload 5, 2) := by decide +kernel
theorem dX10_copy_138 : decode cX10_copy 138 = .ok (.aload 4, 2) := by decide +kernel
theorem dX10_copy_140 : decode cX10_copy 140 = .ok (.invokevirtual 140, 3) := by decide +kernel
theorem dX10_copy_143 : decode cX10_copy 143 = .ok (.aload_n 0, 1) := by decide +kernel
theorem dX10_copy_144 : decode cX10_copy 144 = .ok (.dup, 1) := by decide +kernel
theorem dX10_copy_145 : decode cX10_copy 145 = .ok (.getfield 144, 3) := by decide +kernel
theorem dX10_copy_148 : decode cX10_copy 148 = .ok (.iload_n 3, 1) := by decide +kernel
theorem dX10_copy_149 : decode cX10_copy 149 = .ok (.ifCond .eq 7, 3) := by decide +kernel
theorem dX10_copy_152 : decode cX10_copy 152 = .ok (.iconst 1, 1) := by decide +kernel
theorem dX10_copy_153 : decode cX10_copy 153 = .ok (.goto 4, 3) := by decide +kernel
theorem dX10_copy_156 : decode cX10_copy 156 = .ok (.iconst 0, 1) := by decide +kernel
theorem dX10_copy_157 : decode cX10_copy 157 = .ok (.iadd, 1) := by decide +kernel
theorem dX10_copy_158 : decode cX10_copy 158 = .ok (.putfield 144, 3) := by decide +kernel
theorem dX10_copy_161 : decode cX10_copy 161 = .ok (.aload_n 0, 1) := by decide +kernel
theorem dX10_copy_162 : decode cX10_copy 162 = .ok (.dup, 1) := by decide +kernel
theorem dX10_copy_163 : decode cX10_copy 163 = .ok (.getfield 147, 3) := by decide +kernel
theorem dX10_copy_166 : decode cX10_copy 166 = .ok (.iload_n 3, 1) := by decide +kernel
theorem dX10_copy_167 : decode cX10_copy 167 = .ok (.ifCond .eq 7, 3) := by decide +kernel
theorem dX10_copy_170 : decode cX10_copy 170 = .ok (.iconst 0, 1) := by decide +kernel
theorem dX10_copy_171 : decode cX10_copy 171 = .ok (.goto 4, 3) := by decide +kernel
theorem dX10_copy_174 : decode cX10_copy 174 = .ok (.iconst 1, 1) := by decide +kernel
theorem dX10_copy_175 : decode cX10_copy 175 = .ok (.iadd, 1) := by decide +kernel
theorem dX10_copy_176 : decode cX10_copy 176 = .ok (.putfield 147, 3) := by decide +kernel
theorem dX10_copy_179 : decode cX10_copy 179 = .ok (.aload 5, 2) := by decide +kernel
theorem dX10_copy_181 : decode cX10_copy 181 = .ok (.getfield 52, 3) := by decide +kernel
theorem dX10_copy_184 : decode cX10_copy 184 = .ok (.ireturn, 1) := by decide +kernel
set_option maxRecDepth 20000 in
theorem ggX10_ofCell_X10_isPlace : GoodIn wsX10_ofCell wsX10_isPlace := goodIn_r _ [9, 2, 3, 10, 11, 12, 8, 13, 14, 15, 16, 17, 18, 19, 20, 21, 22, 23, 24, 25, 26, 27, 28, 29, 30, 31, 32, 33, 34, 35, 36, 37, 38, 39, 44, 45, 46, 47, 48, 49, 50, 51, 52, 53, 54, 55, 56, 57, 58, 59, 60, 61, 62, 63, 64, 65] (by decide +kernel) (by decide +kernel)
set_option maxRecDepth 20000 in
theorem gX10_ofCell_X10_isPlace : GoodIn wsX10_ofCell (wsV RX10 74 RX10 yX10_isPlace wsX10_isPlace) := goodIn_app (goodIn_of _ (by decide +kernel)) ggX10_ofCell_X10_isPlace
set_option maxRecDepth 20000 in
theorem ggX10_ofCell_X10_refuse : GoodIn wsX10_ofCell wsX10_refuse := goodIn_r _ [43, 1, 44, 45, 46, 47, 48, 49, 50, 51] (by decide +kernel) (by decide +kernel)
set_option maxRecDepth 20000 in
theorem gX10_ofCell_X10_refuse : GoodIn wsX10_ofCell (wsV RX10 31 RX10 yX10_refuse wsX10_refuse) := goodIn_app (goodIn_of _ (by decide +kernel)) ggX10_ofCell_X10_refuse
set_option maxRecDepth 20000 in
theorem ggX10_ofCell_X10_is : GoodIn wsX10_ofCell wsX10_is := goodIn_r _ [22] (by decide +kernel) (by decide +kernel)
set_option maxRecDepth 20000 in
theorem gX10_ofCell_X10_is : GoodIn wsX10_ofCell (va_wsS RX10 27 yX10_is wsX10_is) := goodIn_app (goodIn_of _ (by decide +kernel)) ggX10_ofCell_X10_is
set_option maxRecDepth 20000 in
theorem ggX10_ofCell_Jx4a65c_get_915e3 : GoodIn wsX10_ofCell wsJx4a65c_get_915e3 := goodIn_r _ [26, 19, 27, 28, 29, 30, 31, 32, 33, 34, 35, 36, 37, 17, 38, 39, 63, 64, 65] (by decide +kernel) (by decide +kernel)
set_option maxRecDepth 20000 in
theorem gX10_ofCell_Jx4a65c_get_915e3 : GoodIn wsX10_ofCell (wsV RX10 48 RJx4a65c yJx4a65c_get_915e3 wsJx4a65c_get_915e3) := goodIn_app (goodIn_of _ (by decide +kernel)) ggX10_ofCell_Jx4a65c_get_915e3
theorem dX10_ofCell_0 : decode cX10_ofCell 0 = .ok (.aload_n 0, 1) := by decide +kernel
theorem dX10_ofCell_1 : decode cX10_ofCell 1 = .ok (.iconst 0, 1) := by decide +kernel
theorem dX10_ofCell_2 : decode cX10_ofCell 2 = .ok (.putfield 20, 3) := by decide +kernel
theorem dX10_ofCell_5 : decode cX10_ofCell 5 = .ok (.aload_n 0, 1) := by decide +kernel
theorem dX10_ofCell_6 : decode cX10_ofCell 6 = .ok (.iload_n 1, 1) := by decide +kernel
theorem dX10_ofCell_7 : decode cX10_ofCell 7 = .ok (.iload_n 2, 1) := by decide +kernel
theorem dX10_ofCell_8 : decode cX10_ofCell 8 = .ok (.invokevirtual 74, 3) := by decide +kernel
theorem dX10_ofCell_11 : decode cX10_ofCell 11 = .ok (.ifCond .ne 9, 3) := by decide +kernel
theorem dX10_ofCell_14 : decode cX10_ofCell 14 = .ok (.aload_n 0, 1) := by decide +kernel
theorem dX10_ofCell_15 : decode cX10_ofCell 15 = .ok (.iconst 1, 1) := by decide +kernel
theorem dX10_ofCell_16 : decode cX10_ofCell 16 = .ok (.invokevirtual 31, 3) := by decide +kernel
theorem dX10_ofCell_19 : decode cX10_ofCell 19 = .ok (.ireturn, 1) := by decide +kernel
theorem dX10_ofCell_20 : decode cX10_ofCell 20 = .ok (.iload_n 3, 1) := by decide +kernel
theorem dX10_ofCell_21 : decode cX10_ofCell 21 = .ok (.iconst 0, 1) := by decide +kernel
theorem dX10_ofCell_22 : decode cX10_ofCell 22 = .ok (.iconst 3, 1) := by decide +kernel
theorem dX10_ofCell_23 : decode cX10_ofCell 23 = .ok (.invokestatic 27, 3) := by decide +kernel
theorem dX10_ofCell_26 : decode cX10_ofCell 26 = .ok (.ifCond .ne 9, 3) := by decide +kernel
theorem dX10_ofCell_29 : decode cX10_ofCell 29 = .ok (.aload_n 0, 1) := by decide +kernel
theorem dX10_ofCell_30 : decode cX10_ofCell 30 = .ok (.iconst 2, 1) := by decide +kernel
theorem dX10_ofCell_31 : decode cX10_ofCell 31 = .ok (.invokevirtual 31, 3) := by decide +kernel
theorem dX10_ofCell_34 : decode cX10_ofCell 34 = .ok (.ireturn, 1) := by decide +kernel
theorem dX10_ofCell_35 : decode cX10_ofCell 35 = .ok (.aload_n 0, 1) := by decide +kernel
theorem dX10_ofCell_36 : decode cX10_ofCell 36 = .ok (.getfield 10, 3) := by decide +kernel
theorem dX10_ofCell_39 : decode cX10_ofCell 39 = .ok (.iload_n 1, 1) := by decide +kernel
theorem dX10_ofCell_40 : decode cX10_ofCell 40 = .ok (.invokevirtual 48, 3) := by decide +kernel
theorem dX10_ofCell_43 : decode cX10_ofCell 43 = .ok (.checkcast 35, 3) := by decide +kernel
theorem dX10_ofCell_46 : decode cX10_ofCell 46 = .ok (.astore 4, 2) := by decide +kernel
theorem dX10_ofCell_48 : decode cX10_ofCell 48 = .ok (.iconst 4, 1) := by decide +kernel
theorem dX10_ofCell_49 : decode cX10_ofCell 49 = .ok (.newarray .int, 2) := by decide +kernel
theorem dX10_ofCell_51 : decode cX10_ofCell 51 = .ok (.dup, 1) := by decide +kernel
theorem dX10_ofCell_52 : decode cX10_ofCell 52 = .ok (.iconst 0, 1) := by decide +kernel
theorem dX10_ofCell_53 : decode cX10_ofCell 53 = .ok (.aload 4, 2) := by decide +kernel
theorem dX10_ofCell_55 : decode cX10_ofCell 55 = .ok (.getfield 92, 3) := by decide +kernel
theorem dX10_ofCell_58 : decode cX10_ofCell 58 = .ok (.iload_n 2, 1) := by decide +kernel
theorem dX10_ofCell_59 : decode cX10_ofCell 59 = .ok (.iaload, 1) := by decide +kernel
theorem dX10_ofCell_60 : decode cX10_ofCell 60 = .ok (.iastore, 1) := by decide +kernel
theorem dX10_ofCell_61 : decode cX10_ofCell 61 = .ok (.dup, 1) := by decide +kernel
theorem dX10_ofCell_62 : decode cX10_ofCell 62 = .ok (.iconst 1, 1) := by decide +kernel
theorem dX10_ofCell_63 : decode cX10_ofCell 63 = .ok (.aload 4, 2) := by decide +kernel
theorem dX10_ofCell_65 : decode cX10_ofCell 65 = .ok (.getfield 101, 3) := by decide +kernel
theorem dX10_ofCell_68 : decode cX10_ofCell 68 = .ok (.iload_n 2, 1) := by decide +kernel
theorem dX10_ofCell_69 : decode cX10_ofCell 69 = .ok (.iaload, 1) := by decide +kernel
theorem dX10_ofCell_70 : decode cX10_ofCell 70 = .ok (.iastore, 1) := by decide +kernel
theorem dX10_ofCell_71 : decode cX10_ofCell 71 = .ok (.dup, 1) := by decide +kernel
theorem dX10_ofCell_72 : decode cX10_ofCell 72 = .ok (.iconst 2, 1) := by decide +kernel
theorem dX10_ofCell_73 : decode cX10_ofCell 73 = .ok (.aload 4, 2) := by decide +kernel
theorem dX10_ofCell_75 : decode cX10_ofCell 75 = .ok (.getfield 78, 3) := by decide +kernel
theorem dX10_ofCell_78 : decode cX10_ofCell 78 = .ok (.iload_n 2, 1) := by decide +kernel
theorem dX10_ofCell_79 : decode cX10_ofCell 79 = .ok (.baload, 1) := by decide +kernel
theorem dX10_ofCell_80 : decode cX10_ofCell 80 = .ok (.ifCond .eq 7, 3) := by decide +kernel
theorem dX10_ofCell_83 : decode cX10_ofCell 83 = .ok (.iconst 1, 1) := by decide +kernel
theorem dX10_ofCell_84 : decode cX10_ofCell 84 = .ok (.goto 4, 3) := by decide +kernel
theorem dX10_ofCell_87 : decode cX10_ofCell 87 = .ok (.iconst 0, 1) := by decide +kernel
theorem dX10_ofCell_88 : decode cX10_ofCell 88 = .ok (.iastore, 1) := by decide +kernel
theorem dX10_ofCell_89 : decode cX10_ofCell 89 = .ok (.dup, 1) := by decide +kernel
theorem dX10_ofCell_90 : decode cX10_ofCell 90 = .ok (.iconst 3, 1) := by decide +kernel
theorem dX10_ofCell_91 : decode cX10_ofCell 91 = .ok (.aload 4, 2) := by decide +kernel
theorem dX10_ofCell_93 : decode cX10_ofCell 93 = .ok (.getfield 82, 3) := by decide +kernel
theorem dX10_ofCell_96 : decode cX10_ofCell 96 = .ok (.iload_n 2, 1) := by decide +kernel
theorem dX10_ofCell_97 : decode cX10_ofCell 97 = .ok (.iaload, 1) := by decide +kernel
theorem dX10_ofCell_98 : decode cX10_ofCell 98 = .ok (.iastore, 1) := by decide +kernel
theorem dX10_ofCell_99 : decode cX10_ofCell 99 = .ok (.astore 5, 2) := by decide +kernel
theorem dX10_ofCell_101 : decode cX10_ofCell 101 = .ok (.aload 5, 2) := by decide +kernel
theorem dX10_ofCell_103 : decode cX10_ofCell 103 = .ok (.iload_n 3, 1) := by decide +kernel
theorem dX10_ofCell_104 : decode cX10_ofCell 104 = .ok (.iaload, 1) := by decide +kernel
theorem dX10_ofCell_105 : decode cX10_ofCell 105 = .ok (.ireturn, 1) := by decide +kernel
set_option maxRecDepth 20000 in
theorem ggX10_ofTrackNow_X8_found : GoodIn wsX10_ofTrackNow wsX8_found := goodIn_r _ [6, 7, 8, 9, 10, 11, 12, 13, 14, 15, 16, 17, 18, 19, 20, 21, 22, 23, 24, 25, 26, 27, 28, 29, 5, 30, 31, 32, 33, 34, 35, 36, 37, 38, 39, 40, 41, 42, 43, 44, 45, 46, 47, 48, 49, 50, 51, 52, 53, 54, 55, 56, 57, 58, 59, 60, 61, 62, 63, 64, 65, 66, 67, 68, 69, 70, 71, 72, 73, 74, 75, 76, 77, 78, 79, 80, 81, 82, 83, 84, 85, 86, 87, 88, 89, 90, 91, 92, 93, 94, 95, 96, 97, 98, 99, 100, 101, 102, 103, 104, 105, 106, 107, 108, 109, 110, 111, 112, 113, 114, 115, 116, 117, 118, 119, 120, 121, 122, 123, 124, 125, 126, 127, 128, 129, 130, 131, 132, 133, 134, 135, 136, 137, 138, 139, 140, 141, 142, 143, 144, 145, 146, 147, 148, 149, 150, 151, 152, 153, 154, 155, 156, 157, 158, 159, 160, 161, 162, 163, 164, 165, 166, 167, 168, 169, 170, 171, 172, 173, 174, 175, 176, 177, 178, 179, 180, 181, 182, 183, 184, 232, 233, 234, 225, 226, 227, 228, 229, 230, 231, 214, 215, 216, 217, 218, 219, 220, 221, 222, 223, 224, 235, 236, 237, 238, 239, 240, 241] (by decide +kernel) (by decide +kernel)
set_option maxRecDepth 20000 in
theorem gX10_ofTrackNow_X8_found : GoodIn wsX10_ofTrackNow (wsV RX10 150 RX8 yX8_found wsX8_found) := goodIn_app (goodIn_of _ (by decide +kernel)) ggX10_ofTrackNow_X8_found
set_option maxRecDepth 20000 in
theorem ggX10_ofTrackNow_Jx4a65c_iterator_32c93 : GoodIn wsX10_ofTrackNow wsJx4a65c_iterator_32c93 := goodIn_r _ [50, 51, 52, 53, 54, 55, 56, 57, 58, 25, 26, 59, 60, 61, 62, 238, 239, 240, 241, 232, 233, 234] (by decide +kernel) (by decide +kernel)
set_option maxRecDepth 20000 in
theorem gX10_ofTrackNow_Jx4a65c_iterator_32c93 : GoodIn wsX10_ofTrackNow (wsV RX10 154 RJx4a65c yJx4a65c_iterator_32c93 wsJx4a65c_iterator_32c93) := goodIn_app (goodIn_of _ (by decide +kernel)) ggX10_ofTrackNow_Jx4a65c_iterator_32c93
set_option maxRecDepth 20000 in
theorem ggX10_ofTrackNow_Jx35411_hasNext_aae02 : GoodIn wsX10_ofTrackNow wsJx35411_hasNext_aae02 := goodIn_r _ [66, 67, 57, 238, 239, 240, 241, 232, 233, 234] (by decide +kernel) (by decide +kernel)
set_option maxRecDepth 20000 in
theorem gX10_ofTrackNow_Jx35411_hasNext_aae02_f158Jx35411 : GoodIn wsX10_ofTrackNow (va_wsF RX10 158 RJx35411 ⟨"java/util/Iterator", "hasNext", "()Z"⟩ yJx35411_hasNext_aae02 wsJx35411_hasNext_aae02) := goodIn_app (goodIn_of _ (by decide +kernel)) ggX10_ofTrackNow_Jx35411_hasNext_aae02
set_option maxRecDepth 20000 in
theorem ggX10_ofTrackNow_Jx35411_next_0502b : GoodIn wsX10_ofTrackNow wsJx35411_next_0502b := goodIn_r _ [71, 67, 57, 72, 59, 73, 74, 75, 53, 76, 60, 61, 62, 238, 239, 240, 241, 232, 233, 234] (by decide +kernel) (by decide +kernel)
set_option maxRecDepth 20000 in
theorem gX10_ofTrackNow_Jx35411_next_0502b_f163Jx35411 : GoodIn wsX10_ofTrackNow (va_wsF RX10 163 RJx35411 ⟨"java/util/Iterator", "next", "()Ljava/lang/Object;"⟩ yJx35411_next_0502b wsJx35411_next_0502b) := goodIn_app (goodIn_of _ (by decide +kernel)) ggX10_ofTrackNow_Jx35411_next_0502b
set_option maxRecDepth 20000 in
theorem ggX10_ofTrackNow_Jx4a65c_size_8abf5 : GoodIn wsX10_ofTrackNow wsJx4a65c_size_8abf5 := goodIn_r _ [90, 46, 232, 233, 234] (by decide +kernel) (by decide +kernel)
set_option maxRecDepth 20000 in
theorem gX10_ofTrackNow_Jx4a65c_size_8abf5 : GoodIn wsX10_ofTrackNow (wsV RX10 23 RJx4a65c yJx4a65c_size_8abf5 wsJx4a65c_size_8abf5) := goodIn_app (goodIn_of _ (by decide +kernel)) ggX10_ofTrackNow_Jx4a65c_size_8abf5
set_option maxRecDepth 20000 in
theorem ggX10_ofTrackNow_X8_shortest : GoodIn wsX10_ofTrackNow wsX8_shortest := goodIn_r _ [35, 36, 37, 38, 39, 40, 41, 42, 43, 44, 9, 45, 46, 47, 48, 49, 50, 51, 52, 53, 54, 55, 56, 57, 58, 25, 26, 59, 60, 61, 62, 63, 64, 65, 66, 67, 68, 69, 70, 71, 72, 73, 74, 75, 76, 214, 215, 216, 217, 218, 219, 220, 221, 222, 223, 224, 235, 236, 237, 232, 233, 234, 238, 239, 240, 241] (by decide +kernel) (by decide +kernel)
set_option maxRecDepth 20000 in
theorem gX10_ofTrackNow_X8_shortest : GoodIn wsX10_ofTrackNow (wsV RX10 132 RX8 yX8_shortest wsX8_shortest) := goodIn_app (goodIn_of _ (by decide +kernel)) ggX10_ofTrackNow_X8_shortest
set_option maxRecDepth 20000 in
theorem ggX10_ofTrackNow_X8_unsure : GoodIn wsX10_ofTrackNow wsX8_unsure := goodIn_r _ [193, 36, 37, 194, 195, 196, 5, 197, 198, 155, 40, 156, 47, 48, 49, 9, 50, 51, 52, 53, 54, 55, 56, 57, 58, 25, 26, 59, 60, 61, 62, 63, 64, 65, 66, 67, 68, 69, 70, 71, 72, 73, 74, 75, 76, 32, 33, 34, 35, 38, 39, 41, 42, 43, 44, 45, 46, 81, 82, 83, 84, 85, 86, 87, 88, 89, 90, 214, 215, 216, 217, 218, 219, 220, 221, 222, 223, 224, 235, 236, 237, 238, 239, 240, 241, 232, 233, 234] (by decide +kernel) (by decide +kernel)
set_option maxRecDepth 20000 in
theorem gX10_ofTrackNow_X8_unsure : GoodIn wsX10_ofTrackNow (wsV RX10 176 RX8 yX8_unsure wsX8_unsure) := goodIn_app (goodIn_of _ (by decide +kernel)) ggX10_ofTrackNow_X8_unsure
set_option maxRecDepth 20000 in
theorem ggX10_ofTrackNow_X8_guards : GoodIn wsX10_ofTrackNow wsX8_guards := goodIn_r _ [202, 31, 203, 204, 205, 3, 4, 5, 6, 7, 8, 9, 10, 11, 12, 13, 14, 15, 16, 17, 18, 19, 20, 21, 22, 23, 24, 25, 26, 27, 28, 29, 30, 32, 33, 34, 35, 36, 37, 38, 39, 40, 41, 42, 43, 44, 45, 46, 47, 48, 49, 50, 51, 52, 53, 54, 55, 56, 57, 58, 59, 60, 61, 62, 63, 64, 65, 66, 67, 68, 69, 70, 71, 72, 73, 74, 75, 76, 77, 78, 79, 80, 81, 82, 83, 84, 85, 86, 87, 88, 89, 90, 91, 92, 93, 94, 95, 96, 97, 98, 99, 100, 101, 102, 103, 104, 105, 106, 107, 108, 109, 110, 111, 112, 113, 114, 115, 116, 117, 118, 119, 120, 121, 122, 123, 124, 125, 126, 127, 128, 129, 130, 131, 132, 133, 134, 135, 136, 137, 138, 139, 140, 141, 142, 143, 144, 145, 146, 147, 148, 149, 150, 151, 152, 153, 154, 155, 156, 157, 158, 159, 160, 161, 162, 163, 164, 165, 166, 167, 168, 169, 170, 171, 172, 173, 174, 175, 176, 177, 178, 179, 180, 181, 182, 183, 184, 206, 191, 192, 193, 194, 195, 196, 197, 198, 214, 215, 216, 217, 218, 219, 220, 221, 222, 223, 224, 225, 226, 227, 228, 229, 230, 231, 232, 233, 234, 235, 236, 237, 238, 239, 240, 241] (by decide +kernel) (by decide +kernel)
set_option maxRecDepth 20000 in
theorem gX10_ofTrackNow_X8_guards : GoodIn wsX10_ofTrackNow (wsV RX10 179 RX8 yX8_guards wsX8_guards) := goodIn_app (goodIn_of _ (by decide +kernel)) ggX10_ofTrackNow_X8_guards
set_option maxRecDepth 20000 in
theorem ggX10_ofTrackNow_X8_sum : GoodIn wsX10_ofTrackNow wsX8_sum := goodIn_r _ [210, 211, 212, 213, 214, 215, 216, 217, 218, 219, 220, 221, 222, 223, 224] (by decide +kernel) (by decide +kernel)
set_option maxRecDepth 20000 in
theorem gX10_ofTrackNow_X8_sum : GoodIn wsX10_ofTrackNow (wsV RX10 89 RX8 yX8_sum wsX8_sum) := goodIn_app (goodIn_of _ (by decide +kernel)) ggX10_ofTrackNow_X8_sum
theorem dX10_ofTrackNow_0 : decode cX10_ofTrackNow 0 = .ok (.iconst 0, 1) := by decide +kernel
theorem dX10_ofTrackNow_1 : decode cX10_ofTrackNow 1 = .ok (.istore_n 2, 1) := by decide +kernel
theorem dX10_ofTrackNow_2 : decode cX10_ofTrackNow 2 = .ok (.iconst 0, 1) := by decide +kernel
theorem dX10_ofTrackNow_3 : decode cX10_ofTrackNow 3 = .ok (.istore_n 3, 1) := by decide +kernel
theorem dX10_ofTrackNow_4 : decode cX10_ofTrackNow 4 = .ok (.iconst 0, 1) := by decide +kernel
theorem dX10_ofTrackNow_5 : decode cX10_ofTrackNow 5 = .ok (.istore 4, 2) := by decide +kernel
theorem dX10_ofTrackNow_7 : decode cX10_ofTrackNow 7 = .ok (.iconst 0, 1) := by decide +kernel
theorem dX10_ofTrackNow_8 : decode cX10_ofTrackNow 8 = .ok (.istore 5, 2) := by decide +kernel
theorem dX10_ofTrackNow_10 : decode cX10_ofTrackNow 10 = .ok (.iload_n 1, 1) := by decide +kernel
theorem dX10_ofTrackNow_11 : decode cX10_ofTrackNow 11 = .ok (.iconst 4, 1) := by decide +kernel
theorem dX10_ofTrackNow_12 : decode cX10_ofTrackNow 12 = .ok (.if_icmp .le 117, 3) := by decide +kernel
theorem dX10_ofTrackNow_15 : decode cX10_ofTrackNow 15 = .ok (.iload_n 1, 1) := by decide +kernel
theorem dX10_ofTrackNow_16 : decode cX10_ofTrackNow 16 = .ok (.bipush 9, 2) := by decide +kernel
theorem dX10_ofTrackNow_18 : decode cX10_ofTrackNow 18 = .ok (.if_icmp .ge 111, 3) := by decide +kernel
theorem dX10_ofTrackNow_21 : decode cX10_ofTrackNow 21 = .ok (.aload_n 0, 1) := by decide +kernel
theorem dX10_ofTrackNow_22 : decode cX10_ofTrackNow 22 = .ok (.aload_n 0, 1) := by decide +kernel
theorem dX10_ofTrackNow_23 : decode cX10_ofTrackNow 23 = .ok (.getfield 129, 3) := by decide +kernel
theorem dX10_ofTrackNow_26 : decode cX10_ofTrackNow 26 = .ok (.invokevirtual 150, 3) := by decide +kernel
theorem dX10_ofTrackNow_29 : decode cX10_ofTrackNow 29 = .ok (.invokevirtual 154, 3) := by decide +kernel
theorem dX10_ofTrackNow_32 : decode cX10_ofTrackNow 32 = .ok (.astore 6, 2) := by decide +kernel
theorem dX10_ofTrackNow_34 : decode cX10_ofTrackNow 34 = .ok (.aload 6, 2) := by decide +kernel
theorem dX10_ofTrackNow_36 : decode cX10_ofTrackNow 36 = .ok (.invokeinterface 158 1, 5) := by decide +kernel
theorem dX10_ofTrackNow_41 : decode cX10_ofTrackNow 41 = .ok (.ifCond .eq 88, 3) := by decide +kernel
theorem dX10_ofTrackNow_44 : decode cX10_ofTrackNow 44 = .ok (.aload 6, 2) := by decide +kernel
theorem dX10_ofTrackNow_46 : decode cX10_ofTrackNow 46 = .ok (.invokeinterface 163 1, 5) := by decide +kernel
theorem dX10_ofTrackNow_51 : decode cX10_ofTrackNow 51 = .ok (.checkcast 167, 3) := by decide +kernel
theorem dX10_ofTrackNow_54 : decode cX10_ofTrackNow 54 = .ok (.astore 7, 2) := by decide +kernel
theorem dX10_ofTrackNow_56 : decode cX10_ofTrackNow 56 = .ok (.iload_n 2, 1) := by decide +kernel
theorem dX10_ofTrackNow_57 : decode cX10_ofTrackNow 57 = .ok (.aload 7, 2) := by decide +kernel
theorem dX10_ofTrackNow_59 : decode cX10_ofTrackNow 59 = .ok (.getfield 169, 3) := by decide +kernel
theorem dX10_ofTrackNow_62 : decode cX10_ofTrackNow 62 = .ok (.iconst 2, 1) := by decide +kernel
theorem dX10_ofTrackNow_63 : decode cX10_ofTrackNow 63 = .ok (.if_icmp .ne 7, 3) := by decide +kernel
theorem dX10_ofTrackNow_66 : decode cX10_ofTrackNow 66 = .ok (.iconst 1, 1) := by decide +kernel
theorem dX10_ofTrackNow_67 : decode cX10_ofTrackNow 67 = .ok (.goto 4, 3) := by decide +kernel
theorem dX10_ofTrackNow_70 : decode cX10_ofTrackNow 70 = .ok (.iconst 0, 1) := by decide +kernel
theorem dX10_ofTrackNow_71 : decode cX10_ofTrackNow 71 = .ok (.iadd, 1) := by decide +kernel
theorem dX10_ofTrackNow_72 : decode cX10_ofTrackNow 72 = .ok (.istore_n 2, 1) := by decide +kernel
theorem dX10_ofTrackNow_73 : decode cX10_ofTrackNow 73 = .ok (.iload_n 3, 1) := by decide +kernel
theorem dX10_ofTrackNow_74 : decode cX10_ofTrackNow 74 = .ok (.aload 7, 2) := by decide +kernel
theorem dX10_ofTrackNow_76 : decode cX10_ofTrackNow 76 = .ok (.getfield 172, 3) := by decide +kernel
theorem dX10_ofTrackNow_79 : decode cX10_ofTrackNow 79 = .ok (.ifCond .eq 7, 3) := by decide +kernel
theorem dX10_ofTrackNow_82 : decode cX10_ofTrackNow 82 = .ok (.iconst 1, 1) := by decide +kernel
theorem dX10_ofTrackNow_83 : decode cX10_ofTrackNow 83 = .ok (.goto 4, 3) := by decide +kernel
theorem dX10_ofTrackNow_86 : decode cX10_ofTrackNow 86 = .ok (.iconst 0, 1) := by decide +kernel
theorem dX10_ofTrackNow_87 : decode cX10_ofTrackNow 87 = .ok (.iadd, 1) := by decide +kernel
theorem dX10_ofTrackNow_88 : decode cX10_ofTrackNow 88 = .ok (.istore_n 3, 1) := by decide +kernel
theorem dX10_ofTrackNow_89 : decode cX10_ofTrackNow 89 = .ok (.iload 4, 2) := by decide +kernel
theorem dX10_ofTrackNow_91 : decode cX10_ofTrackNow 91 = .ok (.aload 7, 2) := by decide +kernel
theorem dX10_ofTrackNow_93 : decode cX10_ofTrackNow 93 = .ok (.getfield 169, 3) := by decide +kernel
theorem dX10_ofTrackNow_96 : decode cX10_ofTrackNow 96 = .ok (.ifCond .ne 7, 3) := by decide +kernel
theorem dX10_ofTrackNow_99 : decode cX10_ofTrackNow 99 = .ok (.iconst 1, 1) := by decide +kernel
theorem dX10_ofTrackNow_100 : decode cX10_ofTrackNow 100 = .ok (.goto 4, 3) := by decide +kernel
theorem dX10_ofTrackNow_103 : decode cX10_ofTrackNow 103 = .ok (.iconst 0, 1) := by decide +kernel
theorem dX10_ofTrackNow_104 : decode cX10_ofTrackNow 104 = .ok (.iadd, 1) := by decide +kernel
theorem dX10_ofTrackNow_105 : decode cX10_ofTrackNow 105 = .ok (.istore 4, 2) := by decide +kernel
theorem dX10_ofTrackNow_107 : decode cX10_ofTrackNow 107 = .ok (.iload 5, 2) := by decide +kernel
theorem dX10_ofTrackNow_109 : decode cX10_ofTrackNow 109 = .ok (.aload 7, 2) := by decide +kernel
theorem dX10_ofTrackNow_111 : decode cX10_ofTrackNow 111 = .ok (.getfield 169, 3) := by decide +kernel
theorem dX10_ofTrackNow_114 : decode cX10_ofTrackNow 114 = .ok (.iconst 1, 1) := by decide +kernel
theorem dX10_ofTrackNow_115 : decode cX10_ofTrackNow 115 = .ok (.if_icmp .ne 7, 3) := by decide +kernel
theorem dX10_ofTrackNow_118 : decode cX10_ofTrackNow 118 = .ok (.iconst 1, 1) := by decide +kernel
theorem dX10_ofTrackNow_119 : decode cX10_ofTrackNow 119 = .ok (.goto 4, 3) := by decide +kernel
theorem dX10_ofTrackNow_122 : decode cX10_ofTrackNow 122 = .ok (.iconst 0, 1) := by decide +kernel
theorem dX10_ofTrackNow_123 : decode cX10_ofTrackNow 123 = .ok (.iadd, 1) := by decide +kernel
theorem dX10_ofTrackNow_124 : decode cX10_ofTrackNow 124 = .ok (.istore 5, 2) := by decide +kernel
theorem dX10_ofTrackNow_126 : decode cX10_ofTrackNow 126 = .ok (.goto (-92), 3) := by decide +kernel
theorem dX10_ofTrackNow_129 : decode cX10_ofTrackNow 129 = .ok (.iload_n 1, 1) := by decide +kernel
theorem dX10_ofTrackNow_130 : decode cX10_ofTrackNow 130 = .ok (.tableswitch 106 0 10 #[58, 63, 68, 76, 81, 86, 88, 90, 93, 96, 101], 58) := by decide +kernel
theorem dX10_ofTrackNow_188 : decode cX10_ofTrackNow 188 = .ok (.aload_n 0, 1) := by decide +kernel
theorem dX10_ofTrackNow_189 : decode cX10_ofTrackNow 189 = .ok (.getfield 129, 3) := by decide +kernel
theorem dX10_ofTrackNow_192 : decode cX10_ofTrackNow 192 = .ok (.ireturn, 1) := by decide +kernel
theorem dX10_ofTrackNow_193 : decode cX10_ofTrackNow 193 = .ok (.aload_n 0, 1) := by decide +kernel
theorem dX10_ofTrackNow_194 : decode cX10_ofTrackNow 194 = .ok (.getfield 52, 3) := by decide +kernel
theorem dX10_ofTrackNow_197 : decode cX10_ofTrackNow 197 = .ok (.ireturn, 1) := by decide +kernel
theorem dX10_ofTrackNow_198 : decode cX10_ofTrackNow 198 = .ok (.aload_n 0, 1) := by decide +kernel
theorem dX10_ofTrackNow_199 : decode cX10_ofTrackNow 199 = .ok (.getfield 111, 3) := by decide +kernel
theorem dX10_ofTrackNow_202 : decode cX10_ofTrackNow 202 = .ok (.invokevirtual 23, 3) := by decide +kernel
theorem dX10_ofTrackNow_205 : decode cX10_ofTrackNow 205 = .ok (.ireturn, 1) := by decide +kernel
theorem dX10_ofTrackNow_206 : decode cX10_ofTrackNow 206 = .ok (.aload_n 0, 1) := by decide +kernel
theorem dX10_ofTrackNow_207 : decode cX10_ofTrackNow 207 = .ok (.invokevirtual 132, 3) := by decide +kernel
theorem dX10_ofTrackNow_210 : decode cX10_ofTrackNow 210 = .ok (.ireturn, 1) := by decide +kernel
theorem dX10_ofTrackNow_211 : decode cX10_ofTrackNow 211 = .ok (.aload_n 0, 1) := by decide +kernel
theorem dX10_ofTrackNow_212 : decode cX10_ofTrackNow 212 = .ok (.invokevirtual 176, 3) := by decide +kernel
theorem dX10_ofTrackNow_215 : decode cX10_ofTrackNow 215 = .ok (.ireturn, 1) := by decide +kernel
theorem dX10_ofTrackNow_216 : decode cX10_ofTrackNow 216 = .ok (.iload_n 2, 1) := by decide +kernel
theorem dX10_ofTrackNow_217 : decode cX10_ofTrackNow 217 = .ok (.ireturn, 1) := by decide +kernel
theorem dX10_ofTrackNow_218 : decode cX10_ofTrackNow 218 = .ok (.iload_n 3, 1) := by decide +kernel
theorem dX10_ofTrackNow_219 : decode cX10_ofTrackNow 219 = .ok (.ireturn, 1) := by decide +kernel
theorem dX10_ofTrackNow_220 : decode cX10_ofTrackNow 220 = .ok (.iload 4, 2) := by decide +kernel
theorem dX10_ofTrackNow_222 : decode cX10_ofTrackNow 222 = .ok (.ireturn, 1) := by decide +kernel
theorem dX10_ofTrackNow_223 : decode cX10_ofTrackNow 223 = .ok (.iload 5, 2) := by decide +kernel
theorem dX10_ofTrackNow_225 : decode cX10_ofTrackNow 225 = .ok (.ireturn, 1) := by decide +kernel
theorem dX10_ofTrackNow_226 : decode cX10_ofTrackNow 226 = .ok (.aload_n 0, 1) := by decide +kernel
theorem dX10_ofTrackNow_227 : decode cX10_ofTrackNow 227 = .ok (.invokevirtual 179, 3) := by decide +kernel
theorem dX10_ofTrackNow_230 : decode cX10_ofTrackNow 230 = .ok (.ireturn, 1) := by decide +kernel
theorem dX10_ofTrackNow_231 : decode cX10_ofTrackNow 231 = .ok (.aload_n 0, 1) := by decide +kernel
theorem dX10_ofTrackNow_232 : decode cX10_ofTrackNow 232 = .ok (.getfield 117, 3) := by decide +kernel
theorem dX10_ofTrackNow_235 : decode cX10_ofTrackNow 235 = .ok (.ireturn, 1) := by decide +kernel
theorem dX10_ofTrackNow_236 : decode cX10_ofTrackNow 236 = .ok (.aload_n 0, 1) := by decide +kernel
theorem dX10_ofTrackNow_237 : decode cX10_ofTrackNow 237 = .ok (.iconst 0, 1) := by decide +kernel
theorem dX10_ofTrackNow_238 : decode cX10_ofTrackNow 238 = .ok (.invokevirtual 89, 3) := by decide +kernel
theorem dX10_ofTrackNow_241 : decode cX10_ofTrackNow 241 = .ok (.ireturn, 1) := by decide +kernel
set_option maxRecDepth 20000 in
theorem ggX10_ofTrack_X10_isTrack : GoodIn wsX10_ofTrack wsX10_isTrack := goodIn_r _ [8, 2, 9, 10, 11, 12, 13, 14, 15, 16, 7, 17, 230, 231, 232, 233, 234, 235, 236, 237, 238, 239, 240] (by decide +kernel) (by decide +kernel)
set_option maxRecDepth 20000 in
theorem gX10_ofTrack_X10_isTrack : GoodIn wsX10_ofTrack (wsV RX10 44 RX10 yX10_isTrack wsX10_isTrack) := goodIn_app (goodIn_of _ (by decide +kernel)) ggX10_ofTrack_X10_isTrack
set_option maxRecDepth 20000 in
theorem ggX10_ofTrack_X10_refuse : GoodIn wsX10_ofTrack wsX10_refuse := goodIn_r _ [21, 1, 230, 231, 232, 233, 234, 235, 236, 237] (by decide +kernel) (by decide +kernel)
set_option maxRecDepth 20000 in
theorem gX10_ofTrack_X10_refuse : GoodIn wsX10_ofTrack (wsV RX10 31 RX10 yX10_refuse wsX10_refuse) := goodIn_app (goodIn_of _ (by decide +kernel)) ggX10_ofTrack_X10_refuse
set_option maxRecDepth 20000 in
theorem ggX10_ofTrack_X10_is : GoodIn wsX10_ofTrack wsX10_is := goodIn_r _ [17] (by decide +kernel) (by decide +kernel)
set_option maxRecDepth 20000 in
theorem gX10_ofTrack_X10_is : GoodIn wsX10_ofTrack (va_wsS RX10 27 yX10_is wsX10_is) := goodIn_app (goodIn_of _ (by decide +kernel)) ggX10_ofTrack_X10_is
set_option maxRecDepth 20000 in
theorem ggX10_ofTrack_Jx4a65c_get_915e3 : GoodIn wsX10_ofTrack wsJx4a65c_get_915e3 := goodIn_r _ [25, 14, 26, 27, 28, 29, 30, 31, 32, 33, 34, 35, 36, 12, 37, 38, 238, 239, 240] (by decide +kernel) (by decide +kernel)
set_option maxRecDepth 20000 in
theorem gX10_ofTrack_Jx4a65c_get_915e3 : GoodIn wsX10_ofTrack (wsV RX10 48 RJx4a65c yJx4a65c_get_915e3 wsJx4a65c_get_915e3) := goodIn_app (goodIn_of _ (by decide +kernel)) ggX10_ofTrack_Jx4a65c_get_915e3
set_option maxRecDepth 20000 in
theorem ggX10_ofTrack_X10_ofTrackNow : GoodIn wsX10_ofTrack wsX10_ofTrackNow := goodIn_r _ [41, 42, 43, 44, 45, 46, 47, 48, 49, 12, 50, 51, 52, 53, 38, 54, 55, 56, 57, 58, 59, 60, 61, 62, 63, 64, 65, 66, 67, 68, 69, 70, 71, 72, 73, 74, 75, 76, 77, 78, 79, 80, 81, 82, 83, 84, 14, 85, 86, 87, 88, 89, 90, 91, 92, 93, 94, 95, 96, 97, 98, 99, 100, 101, 102, 103, 104, 105, 106, 107, 108, 109, 110, 111, 112, 113, 114, 115, 116, 117, 118, 119, 120, 121, 122, 123, 124, 125, 10, 11, 13, 126, 23, 24, 25, 26, 27, 28, 29, 30, 31, 32, 33, 34, 35, 36, 37, 127, 128, 129, 130, 131, 132, 133, 134, 135, 136, 137, 138, 139, 140, 141, 142, 143, 144, 145, 146, 147, 148, 149, 150, 151, 152, 153, 16, 7, 17, 154, 155, 156, 157, 158, 159, 160, 161, 162, 163, 164, 165, 166, 167, 168, 169, 170, 171, 172, 173, 174, 175, 176, 177, 178, 179, 180, 181, 182, 183, 184, 185, 186, 187, 188, 189, 190, 191, 192, 193, 194, 195, 196, 197, 198, 199, 200, 201, 202, 203, 204, 9, 205, 206, 207, 208, 209, 210, 211, 212, 213, 214, 215, 216, 217, 218, 219, 220, 221, 222, 223, 224, 225, 226, 227, 228, 229, 241, 242, 243, 244, 245, 246, 247, 248, 249, 250, 251, 252, 253, 254, 255, 256, 257, 258, 238, 239, 240, 259, 260, 261, 262, 263, 264, 265] (by decide +kernel) (by decide +kernel)
set_option maxRecDepth 20000 in
theorem gX10_ofTrack_X10_ofTrackNow : GoodIn wsX10_ofTrack (va_wsS RX10 182 yX10_ofTrackNow wsX10_ofTrackNow) := goodIn_app (goodIn_of _ (by decide +kernel)) ggX10_ofTrack_X10_ofTrackNow
theorem dX10_ofTrack_0 : decode cX10_ofTrack 0 = .ok (.aload_n 0, 1) := by decide +kernel
theorem dX10_ofTrack_1 : decode cX10_ofTrack 1 = .ok (.iconst 0, 1) := by decide +kernel
theorem dX10_ofTrack_2 : decode cX10_ofTrack 2 = .ok (.putfield 20, 3) := by decide +kernel
theorem dX10_ofTrack_5 : decode cX10_ofTrack 5 = .ok (.aload_n 0, 1) := by decide +kernel
theorem dX10_ofTrack_6 : decode cX10_ofTrack 6 = .ok (.iload_n 1, 1) := by decide +kernel
theorem dX10_ofTrack_7 : decode cX10_ofTrack 7 = .ok (.invokevirtual 44, 3) := by decide +kernel
theorem dX10_ofTrack_10 : decode cX10_ofTrack 10 = .ok (.ifCond .ne 9, 3) := by decide +kernel
theorem dX10_ofTrack_13 : decode cX10_ofTrack 13 = .ok (.aload_n 0, 1) := by decide +kernel
theorem dX10_ofTrack_14 : decode cX10_ofTrack 14 = .ok (.iconst 1, 1) := by decide +kernel
theorem dX10_ofTrack_15 : decode cX10_ofTrack 15 = .ok (.invokevirtual 31, 3) := by decide +kernel
theorem dX10_ofTrack_18 : decode cX10_ofTrack 18 = .ok (.ireturn, 1) := by decide +kernel
theorem dX10_ofTrack_19 : decode cX10_ofTrack 19 = .ok (.iload_n 2, 1) := by decide +kernel
theorem dX10_ofTrack_20 : decode cX10_ofTrack 20 = .ok (.iconst 0, 1) := by decide +kernel
theorem dX10_ofTrack_21 : decode cX10_ofTrack 21 = .ok (.bipush 11, 2) := by decide +kernel
theorem dX10_ofTrack_23 : decode cX10_ofTrack 23 = .ok (.invokestatic 27, 3) := by decide +kernel
theorem dX10_ofTrack_26 : decode cX10_ofTrack 26 = .ok (.ifCond .eq 21, 3) := by decide +kernel
theorem dX10_ofTrack_29 : decode cX10_ofTrack 29 = .ok (.aload_n 0, 1) := by decide +kernel
theorem dX10_ofTrack_30 : decode cX10_ofTrack 30 = .ok (.getfield 10, 3) := by decide +kernel
theorem dX10_ofTrack_33 : decode cX10_ofTrack 33 = .ok (.iload_n 1, 1) := by decide +kernel
theorem dX10_ofTrack_34 : decode cX10_ofTrack 34 = .ok (.invokevirtual 48, 3) := by decide +kernel
theorem dX10_ofTrack_37 : decode cX10_ofTrack 37 = .ok (.checkcast 35, 3) := by decide +kernel
theorem dX10_ofTrack_40 : decode cX10_ofTrack 40 = .ok (.iload_n 2, 1) := by decide +kernel
theorem dX10_ofTrack_41 : decode cX10_ofTrack 41 = .ok (.invokestatic 182, 3) := by decide +kernel
theorem dX10_ofTrack_44 : decode cX10_ofTrack 44 = .ok (.goto 8, 3) := by decide +kernel
theorem dX10_ofTrack_47 : decode cX10_ofTrack 47 = .ok (.aload_n 0, 1) := by decide +kernel
theorem dX10_ofTrack_48 : decode cX10_ofTrack 48 = .ok (.iconst 2, 1) := by decide +kernel
theorem dX10_ofTrack_49 : decode cX10_ofTrack 49 = .ok (.invokevirtual 31, 3) := by decide +kernel
theorem dX10_ofTrack_52 : decode cX10_ofTrack 52 = .ok (.ireturn, 1) := by decide +kernel
set_option maxRecDepth 20000 in
theorem ggX10_vote_X10_isTrack : GoodIn wsX10_vote wsX10_isTrack := goodIn_r _ [8, 2, 9, 10, 11, 12, 13, 14, 15, 16, 7, 17, 98, 99, 100, 101, 102, 103, 104, 105, 106, 107, 108] (by decide +kernel) (by decide +kernel)
set_option maxRecDepth 20000 in
theorem gX10_vote_X10_isTrack : GoodIn wsX10_vote (wsV RX10 44 RX10 yX10_isTrack wsX10_isTrack) := goodIn_app (goodIn_of _ (by decide +kernel)) ggX10_vote_X10_isTrack
set_option maxRecDepth 20000 in
theorem ggX10_vote_Jx4a65c_get_915e3 : GoodIn wsX10_vote wsJx4a65c_get_915e3 := goodIn_r _ [21, 14, 22, 23, 24, 25, 26, 27, 28, 29, 30, 31, 32, 12, 33, 34, 106, 107, 108] (by decide +kernel) (by decide +kernel)
set_option maxRecDepth 20000 in
theorem gX10_vote_Jx4a65c_get_915e3 : GoodIn wsX10_vote (wsV RX10 48 RJx4a65c yJx4a65c_get_915e3 wsJx4a65c_get_915e3) := goodIn_app (goodIn_of _ (by decide +kernel)) ggX10_vote_Jx4a65c_get_915e3
set_option maxRecDepth 20000 in
theorem ggX10_vote_X8_shortest : GoodIn wsX10_vote wsX8_shortest := goodIn_r _ [39, 40, 41, 42, 43, 44, 45, 46, 47, 48, 12, 49, 14, 50, 51, 52, 53, 54, 55, 56, 57, 58, 59, 60, 61, 62, 63, 64, 65, 66, 67, 68, 69, 70, 71, 72, 73, 74, 75, 76, 77, 78, 79, 80, 81, 109, 110, 111, 112, 113, 114, 115, 116, 117, 118, 119, 120, 121, 122, 106, 107, 108, 123, 124, 125, 126] (by decide +kernel) (by decide +kernel)
set_option maxRecDepth 20000 in
theorem gX10_vote_X8_shortest : GoodIn wsX10_vote (wsV RX10 132 RX8 yX8_shortest wsX8_shortest) := goodIn_app (goodIn_of _ (by decide +kernel)) ggX10_vote_X8_shortest
set_option maxRecDepth 20000 in
theorem ggX10_vote_X10_is : GoodIn wsX10_vote wsX10_is := goodIn_r _ [17] (by decide +kernel) (by decide +kernel)
set_option maxRecDepth 20000 in
theorem gX10_vote_X10_is : GoodIn wsX10_vote (va_wsS RX10 27 yX10_is wsX10_is) := goodIn_app (goodIn_of _ (by decide +kernel)) ggX10_vote_X10_is
set_option maxRecDepth 20000 in
theorem ggX10_vote_X8_vote : GoodIn wsX10_vote wsX8_vote := goodIn_r _ [85, 40, 41, 50, 51, 52, 12, 53, 54, 55, 56, 57, 58, 59, 60, 61, 62, 63, 64, 65, 66, 67, 68, 69, 70, 71, 72, 73, 74, 75, 76, 77, 78, 79, 80, 81, 86, 87, 88, 89, 90, 91, 92, 10, 11, 13, 14, 93, 19, 20, 21, 22, 23, 24, 25, 26, 27, 28, 29, 30, 31, 32, 33, 34, 109, 110, 111, 112, 113, 114, 115, 116, 117, 118, 119, 123, 124, 125, 126, 106, 107, 108, 120, 121, 122] (by decide +kernel) (by decide +kernel)
set_option maxRecDepth 20000 in
theorem gX10_vote_X8_vote : GoodIn wsX10_vote (wsV RX10 135 RX8 yX8_vote wsX8_vote) := goodIn_app (goodIn_of _ (by decide +kernel)) ggX10_vote_X8_vote
set_option maxRecDepth 20000 in
theorem ggX10_vote_X10_refuse : GoodIn wsX10_vote wsX10_refuse := goodIn_r _ [97, 1, 98, 99, 100, 101, 102, 103, 104, 105] (by decide +kernel) (by decide +kernel)
set_option maxRecDepth 20000 in
theorem gX10_vote_X10_refuse : GoodIn wsX10_vote (wsV RX10 31 RX10 yX10_refuse wsX10_refuse) := goodIn_app (goodIn_of _ (by decide +kernel)) ggX10_vote_X10_refuse
theorem dX10_vote_0 : decode cX10_vote 0 = .ok (.aload_n 0, 1) := by decide +kernel
theorem dX10_vote_1 : decode cX10_vote 1 = .ok (.iconst 0, 1) := by decide +kernel
theorem dX10_vote_2 : decode cX10_vote 2 = .ok (.putfield 20, 3) := by decide +kernel
theorem dX10_vote_5 : decode cX10_vote 5 = .ok (.aload_n 0, 1) := by decide +kernel
theorem dX10_vote_6 : decode cX10_vote 6 = .ok (.iload_n 1, 1) := by decide +kernel
theorem dX10_vote_7 : decode cX10_vote 7 = .ok (.invokevirtual 44, 3) := by decide +kernel
theorem dX10_vote_10 : decode cX10_vote 10 = .ok (.ifCond .eq 45, 3) := by decide +kernel
theorem dX10_vote_13 : decode cX10_vote 13 = .ok (.iload_n 2, 1) := by decide +kernel
theorem dX10_vote_14 : decode cX10_vote 14 = .ok (.iconst 0, 1) := by decide +kernel
theorem dX10_vote_15 : decode cX10_vote 15 = .ok (.aload_n 0, 1) := by decide +kernel
theorem dX10_vote_16 : decode cX10_vote 16 = .ok (.getfield 10, 3) := by decide +kernel
theorem dX10_vote_19 : decode cX10_vote 19 = .ok (.iload_n 1, 1) := by decide +kernel
theorem dX10_vote_20 : decode cX10_vote 20 = .ok (.invokevirtual 48, 3) := by decide +kernel
theorem dX10_vote_23 : decode cX10_vote 23 = .ok (.checkcast 35, 3) := by decide +kernel
theorem dX10_vote_26 : decode cX10_vote 26 = .ok (.invokevirtual 132, 3) := by decide +kernel
theorem dX10_vote_29 : decode cX10_vote 29 = .ok (.iconst 1, 1) := by decide +kernel
theorem dX10_vote_30 : decode cX10_vote 30 = .ok (.isub, 1) := by decide +kernel
theorem dX10_vote_31 : decode cX10_vote 31 = .ok (.invokestatic 27, 3) := by decide +kernel
theorem dX10_vote_34 : decode cX10_vote 34 = .ok (.ifCond .eq 21, 3) := by decide +kernel
theorem dX10_vote_37 : decode cX10_vote 37 = .ok (.aload_n 0, 1) := by decide +kernel
theorem dX10_vote_38 : decode cX10_vote 38 = .ok (.getfield 10, 3) := by decide +kernel
theorem dX10_vote_41 : decode cX10_vote 41 = .ok (.iload_n 1, 1) := by decide +kernel
theorem dX10_vote_42 : decode cX10_vote 42 = .ok (.invokevirtual 48, 3) := by decide +kernel
theorem dX10_vote_45 : decode cX10_vote 45 = .ok (.checkcast 35, 3) := by decide +kernel
theorem dX10_vote_48 : decode cX10_vote 48 = .ok (.iload_n 2, 1) := by decide +kernel
theorem dX10_vote_49 : decode cX10_vote 49 = .ok (.invokevirtual 135, 3) := by decide +kernel
theorem dX10_vote_52 : decode cX10_vote 52 = .ok (.goto 8, 3) := by decide +kernel
theorem dX10_vote_55 : decode cX10_vote 55 = .ok (.aload_n 0, 1) := by decide +kernel
theorem dX10_vote_56 : decode cX10_vote 56 = .ok (.iconst 1, 1) := by decide +kernel
theorem dX10_vote_57 : decode cX10_vote 57 = .ok (.invokevirtual 31, 3) := by decide +kernel
theorem dX10_vote_60 : decode cX10_vote 60 = .ok (.ireturn, 1) := by decide +kernel
set_option maxRecDepth 20000 in
theorem ggX10_isTurn_X10_isTrack : GoodIn wsX10_isTurn wsX10_isTrack := goodIn_r _ [7, 1, 8, 9, 10, 11, 12, 13, 14, 15, 6, 16, 34, 35, 36, 37, 38, 39, 40, 41, 53, 54, 55] (by decide +kernel) (by decide +kernel)
set_option maxRecDepth 20000 in
theorem gX10_isTurn_X10_isTrack : GoodIn wsX10_isTurn (wsV RX10 44 RX10 yX10_isTrack wsX10_isTrack) := goodIn_app (goodIn_of _ (by decide +kernel)) ggX10_isTurn_X10_isTrack
set_option maxRecDepth 20000 in
theorem ggX10_isTurn_Jx4a65c_get_915e3 : GoodIn wsX10_isTurn wsJx4a65c_get_915e3 := goodIn_r _ [20, 13, 21, 22, 23, 24, 25, 26, 27, 28, 29, 30, 31, 11, 32, 33, 53, 54, 55] (by decide +kernel) (by decide +kernel)
set_option maxRecDepth 20000 in
theorem gX10_isTurn_Jx4a65c_get_915e3 : GoodIn wsX10_isTurn (wsV RX10 48 RJx4a65c yJx4a65c_get_915e3 wsJx4a65c_get_915e3) := goodIn_app (goodIn_of _ (by decide +kernel)) ggX10_isTurn_Jx4a65c_get_915e3
set_option maxRecDepth 20000 in
theorem ggX10_isTurn_Jx4a65c_size_8abf5 : GoodIn wsX10_isTurn wsJx4a65c_size_8abf5 := goodIn_r _ [12, 13, 53, 54, 55] (by decide +kernel) (by decide +kernel)
set_option maxRecDepth 20000 in
theorem gX10_isTurn_Jx4a65c_size_8abf5 : GoodIn wsX10_isTurn (wsV RX10 23 RJx4a65c yJx4a65c_size_8abf5 wsJx4a65c_size_8abf5) := goodIn_app (goodIn_of _ (by decide +kernel)) ggX10_isTurn_Jx4a65c_size_8abf5
set_option maxRecDepth 20000 in
theorem ggX10_isTurn_X10_is : GoodIn wsX10_isTurn wsX10_is := goodIn_r _ [16] (by decide +kernel) (by decide +kernel)
set_option maxRecDepth 20000 in
theorem gX10_isTurn_X10_is : GoodIn wsX10_isTurn (va_wsS RX10 27 yX10_is wsX10_is) := goodIn_app (goodIn_of _ (by decide +kernel)) ggX10_isTurn_X10_is
theorem dX10_isTurn_0 : decode cX10_isTurn 0 = .ok (.aload_n 0, 1) := by decide +kernel
theorem dX10_isTurn_1 : decode cX10_isTurn 1 = .ok (.iload_n 1, 1) := by decide +kernel
theorem dX10_isTurn_2 : decode cX10_isTurn 2 = .ok (.invokevirtual 44, 3) := by decide +kernel
theorem dX10_isTurn_5 : decode cX10_isTurn 5 = .ok (.ifCond .eq 34, 3) := by decide +kernel
theorem dX10_isTurn_8 : decode cX10_isTurn 8 = .ok (.iload_n 2, 1) := by decide +kernel
theorem dX10_isTurn_9 : decode cX10_isTurn 9 = .ok (.iconst 0, 1) := by decide +kernel
theorem dX10_isTurn_10 : decode cX10_isTurn 10 = .ok (.aload_n 0, 1) := by decide +kernel
theorem dX10_isTurn_11 : decode cX10_isTurn 11 = .ok (.getfield 10, 3) := by decide +kernel
theorem dX10_isTurn_14 : decode cX10_isTurn 14 = .ok (.iload_n 1, 1) := by decide +kernel
theorem dX10_isTurn_15 : decode cX10_isTurn 15 = .ok (.invokevirtual 48, 3) := by decide +kernel
theorem dX10_isTurn_18 : decode cX10_isTurn 18 = .ok (.checkcast 35, 3) := by decide +kernel
theorem dX10_isTurn_21 : decode cX10_isTurn 21 = .ok (.getfield 111, 3) := by decide +kernel
theorem dX10_isTurn_24 : decode cX10_isTurn 24 = .ok (.invokevirtual 23, 3) := by decide +kernel
theorem dX10_isTurn_27 : decode cX10_isTurn 27 = .ok (.iconst 1, 1) := by decide +kernel
theorem dX10_isTurn_28 : decode cX10_isTurn 28 = .ok (.isub, 1) := by decide +kernel
theorem dX10_isTurn_29 : decode cX10_isTurn 29 = .ok (.invokestatic 27, 3) := by decide +kernel
theorem dX10_isTurn_32 : decode cX10_isTurn 32 = .ok (.ifCond .eq 7, 3) := by decide +kernel
theorem dX10_isTurn_35 : decode cX10_isTurn 35 = .ok (.iconst 1, 1) := by decide +kernel
theorem dX10_isTurn_36 : decode cX10_isTurn 36 = .ok (.goto 4, 3) := by decide +kernel
theorem dX10_isTurn_39 : decode cX10_isTurn 39 = .ok (.iconst 0, 1) := by decide +kernel
theorem dX10_isTurn_40 : decode cX10_isTurn 40 = .ok (.ireturn, 1) := by decide +kernel
set_option maxRecDepth 20000 in
theorem ggX10_turnNow_X9_at : GoodIn wsX10_turnNow wsX9_at := goodIn_r _ [5, 6, 7, 8, 9] (by decide +kernel) (by decide +kernel)
set_option maxRecDepth 20000 in
theorem gX10_turnNow_X9_at : GoodIn wsX10_turnNow (wsV RX10 185 RX9 yX9_at wsX9_at) := goodIn_app (goodIn_of _ (by decide +kernel)) ggX10_turnNow_X9_at
theorem dX10_turnNow_0 : decode cX10_turnNow 0 = .ok (.iconst 1, 1) := by decide +kernel
theorem dX10_turnNow_1 : decode cX10_turnNow 1 = .ok (.istore_n 2, 1) := by decide +kernel
theorem dX10_turnNow_2 : decode cX10_turnNow 2 = .ok (.iconst 0, 1) := by decide +kernel
theorem dX10_turnNow_3 : decode cX10_turnNow 3 = .ok (.istore_n 3, 1) := by decide +kernel
theorem dX10_turnNow_4 : decode cX10_turnNow 4 = .ok (.iload_n 3, 1) := by decide +kernel
theorem dX10_turnNow_5 : decode cX10_turnNow 5 = .ok (.aload_n 0, 1) := by decide +kernel
theorem dX10_turnNow_6 : decode cX10_turnNow 6 = .ok (.getfield 121, 3) := by decide +kernel
theorem dX10_turnNow_9 : decode cX10_turnNow 9 = .ok (.if_icmp .ge 19, 3) := by decide +kernel
theorem dX10_turnNow_12 : decode cX10_turnNow 12 = .ok (.iconst 3, 1) := by decide +kernel
theorem dX10_turnNow_13 : decode cX10_turnNow 13 = .ok (.iload_n 2, 1) := by decide +kernel
theorem dX10_turnNow_14 : decode cX10_turnNow 14 = .ok (.imul, 1) := by decide +kernel
theorem dX10_turnNow_15 : decode cX10_turnNow 15 = .ok (.aload_n 0, 1) := by decide +kernel
theorem dX10_turnNow_16 : decode cX10_turnNow 16 = .ok (.iload_n 3, 1) := by decide +kernel
theorem dX10_turnNow_17 : decode cX10_turnNow 17 = .ok (.invokevirtual 185, 3) := by decide +kernel
theorem dX10_turnNow_20 : decode cX10_turnNow 20 = .ok (.iadd, 1) := by decide +kernel
theorem dX10_turnNow_21 : decode cX10_turnNow 21 = .ok (.istore_n 2, 1) := by decide +kernel
theorem dX10_turnNow_22 : decode cX10_turnNow 22 = .ok (.iinc 3 1, 3) := by decide +kernel
theorem dX10_turnNow_25 : decode cX10_turnNow 25 = .ok (.goto (-21), 3) := by decide +kernel
theorem dX10_turnNow_28 : decode cX10_turnNow 28 = .ok (.iload_n 1, 1) := by decide +kernel
theorem dX10_turnNow_29 : decode cX10_turnNow 29 = .ok (.ifCond .eq 7, 3) := by decide +kernel
theorem dX10_turnNow_32 : decode cX10_turnNow 32 = .ok (.iload_n 2, 1) := by decide +kernel
theorem dX10_turnNow_33 : decode cX10_turnNow 33 = .ok (.goto 7, 3) := by decide +kernel
theorem dX10_turnNow_36 : decode cX10_turnNow 36 = .ok (.aload_n 0, 1) := by decide +kernel
theorem dX10_turnNow_37 : decode cX10_turnNow 37 = .ok (.getfield 121, 3) := by decide +kernel
theorem dX10_turnNow_40 : decode cX10_turnNow 40 = .ok (.ireturn, 1) := by decide +kernel
set_option maxRecDepth 20000 in
theorem ggX10_turn_X10_isTurn : GoodIn wsX10_turn wsX10_isTurn := goodIn_r _ [9, 2, 3, 10, 11, 12, 8, 13, 14, 15, 16, 17, 18, 19, 20, 21, 22, 23, 24, 25, 26, 27, 28, 29, 30, 31, 32, 33, 34, 35, 36, 37, 38, 39, 53, 54, 55, 56, 57, 58, 59, 60, 61, 62, 63, 64, 65, 66, 67, 68, 69, 70, 71, 72, 73, 74] (by decide +kernel) (by decide +kernel)
set_option maxRecDepth 20000 in
theorem gX10_turn_X10_isTurn : GoodIn wsX10_turn (wsV RX10 188 RX10 yX10_isTurn wsX10_isTurn) := goodIn_app (goodIn_of _ (by decide +kernel)) ggX10_turn_X10_isTurn
set_option maxRecDepth 20000 in
theorem ggX10_turn_Jx4a65c_get_915e3 : GoodIn wsX10_turn wsJx4a65c_get_915e3 := goodIn_r _ [26, 19, 27, 28, 29, 30, 31, 32, 33, 34, 35, 36, 37, 17, 38, 39, 72, 73, 74] (by decide +kernel) (by decide +kernel)
set_option maxRecDepth 20000 in
theorem gX10_turn_Jx4a65c_get_915e3 : GoodIn wsX10_turn (wsV RX10 48 RJx4a65c yJx4a65c_get_915e3 wsJx4a65c_get_915e3) := goodIn_app (goodIn_of _ (by decide +kernel)) ggX10_turn_Jx4a65c_get_915e3
set_option maxRecDepth 20000 in
theorem ggX10_turn_X10_turnNow : GoodIn wsX10_turn wsX10_turnNow := goodIn_r _ [42, 43, 44, 45, 46, 47, 48, 75, 76, 77] (by decide +kernel) (by decide +kernel)
set_option maxRecDepth 20000 in
theorem gX10_turn_X10_turnNow : GoodIn wsX10_turn (va_wsS RX10 191 yX10_turnNow wsX10_turnNow) := goodIn_app (goodIn_of _ (by decide +kernel)) ggX10_turn_X10_turnNow
set_option maxRecDepth 20000 in
theorem ggX10_turn_X10_refuse : GoodIn wsX10_turn wsX10_refuse := goodIn_r _ [52, 1, 53, 54, 55, 56, 57, 58, 59, 60] (by decide +kernel) (by decide +kernel)
set_option maxRecDepth 20000 in
theorem gX10_turn_X10_refuse : GoodIn wsX10_turn (wsV RX10 31 RX10 yX10_refuse wsX10_refuse) := goodIn_app (goodIn_of _ (by decide +kernel)) ggX10_turn_X10_refuse
theorem dX10_turn_0 : decode cX10_turn 0 = .ok (.aload_n 0, 1) := by decide +kernel
theorem dX10_turn_1 : decode cX10_turn 1 = .ok (.iconst 0, 1) := by decide +kernel
theorem dX10_turn_2 : decode cX10_turn 2 = .ok (.putfield 20, 3) := by decide +kernel
theorem dX10_turn_5 : decode cX10_turn 5 = .ok (.aload_n 0, 1) := by decide +kernel
theorem dX10_turn_6 : decode cX10_turn 6 = .ok (.iload_n 1, 1) := by decide +kernel
theorem dX10_turn_7 : decode cX10_turn 7 = .ok (.iload_n 2, 1) := by decide +kernel
theorem dX10_turn_8 : decode cX10_turn 8 = .ok (.invokevirtual 188, 3) := by decide +kernel
theorem dX10_turn_11 : decode cX10_turn 11 = .ok (.ifCond .eq 31, 3) := by decide +kernel
theorem dX10_turn_14 : decode cX10_turn 14 = .ok (.aload_n 0, 1) := by decide +kernel
theorem dX10_turn_15 : decode cX10_turn 15 = .ok (.getfield 10, 3) := by decide +kernel
theorem dX10_turn_18 : decode cX10_turn 18 = .ok (.iload_n 1, 1) := by decide +kernel
theorem dX10_turn_19 : decode cX10_turn 19 = .ok (.invokevirtual 48, 3) := by decide +kernel
theorem dX10_turn_22 : decode cX10_turn 22 = .ok (.checkcast 35, 3) := by decide +kernel
theorem dX10_turn_25 : decode cX10_turn 25 = .ok (.getfield 111, 3) := by decide +kernel
theorem dX10_turn_28 : decode cX10_turn 28 = .ok (.iload_n 2, 1) := by decide +kernel
theorem dX10_turn_29 : decode cX10_turn 29 = .ok (.invokevirtual 48, 3) := by decide +kernel
theorem dX10_turn_32 : decode cX10_turn 32 = .ok (.checkcast 98, 3) := by decide +kernel
theorem dX10_turn_35 : decode cX10_turn 35 = .ok (.iload_n 3, 1) := by decide +kernel
theorem dX10_turn_36 : decode cX10_turn 36 = .ok (.invokestatic 191, 3) := by decide +kernel
theorem dX10_turn_39 : decode cX10_turn 39 = .ok (.goto 8, 3) := by decide +kernel
theorem dX10_turn_42 : decode cX10_turn 42 = .ok (.aload_n 0, 1) := by decide +kernel
theorem dX10_turn_43 : decode cX10_turn 43 = .ok (.iconst 1, 1) := by decide +kernel
theorem dX10_turn_44 : decode cX10_turn 44 = .ok (.invokevirtual 31, 3) := by decide +kernel
theorem dX10_turn_47 : decode cX10_turn 47 = .ok (.ireturn, 1) := by decide +kernel
set_option maxRecDepth 20000 in
theorem ggX10_period_X10_isTurn : GoodIn wsX10_period wsX10_isTurn := goodIn_r _ [9, 2, 3, 10, 11, 12, 8, 13, 14, 15, 16, 17, 18, 19, 20, 21, 22, 23, 24, 25, 26, 27, 28, 29, 30, 31, 32, 33, 34, 35, 36, 37, 38, 39, 40, 41, 42, 43, 44, 45, 46, 47, 48, 49, 50, 51, 52, 53, 54, 55, 56, 57, 58, 62, 63, 64] (by decide +kernel) (by decide +kernel)
set_option maxRecDepth 20000 in
theorem gX10_period_X10_isTurn : GoodIn wsX10_period (wsV RX10 188 RX10 yX10_isTurn wsX10_isTurn) := goodIn_app (goodIn_of _ (by decide +kernel)) ggX10_period_X10_isTurn
set_option maxRecDepth 20000 in
theorem ggX10_period_Jx4a65c_get_915e3 : GoodIn wsX10_period wsJx4a65c_get_915e3 := goodIn_r _ [26, 19, 27, 28, 29, 30, 31, 32, 33, 34, 35, 36, 37, 17, 38, 39, 62, 63, 64] (by decide +kernel) (by decide +kernel)
set_option maxRecDepth 20000 in
theorem gX10_period_Jx4a65c_get_915e3 : GoodIn wsX10_period (wsV RX10 48 RJx4a65c yJx4a65c_get_915e3 wsJx4a65c_get_915e3) := goodIn_app (goodIn_of _ (by decide +kernel)) ggX10_period_Jx4a65c_get_915e3
theorem dX10_period_0 : decode cX10_period 0 = .ok (.aload_n 0, 1) := by decide +kernel
theorem dX10_period_1 : decode cX10_period 1 = .ok (.aload_n 0, 1) := by decide +kernel
theorem dX10_period_2 : decode cX10_period 2 = .ok (.iload_n 1, 1) := by decide +kernel
theorem dX10_period_3 : decode cX10_period 3 = .ok (.iload_n 2, 1) := by decide +kernel
theorem dX10_period_4 : decode cX10_period 4 = .ok (.invokevirtual 188, 3) := by decide +kernel
theorem dX10_period_7 : decode cX10_period 7 = .ok (.ifCond .eq 7, 3) := by decide +kernel
theorem dX10_period_10 : decode cX10_period 10 = .ok (.iconst 0, 1) := by decide +kernel
theorem dX10_period_11 : decode cX10_period 11 = .ok (.goto 4, 3) := by decide +kernel
theorem dX10_period_14 : decode cX10_period 14 = .ok (.iconst 1, 1) := by decide +kernel
theorem dX10_period_15 : decode cX10_period 15 = .ok (.putfield 20, 3) := by decide +kernel
theorem dX10_period_18 : decode cX10_period 18 = .ok (.aload_n 0, 1) := by decide +kernel
theorem dX10_period_19 : decode cX10_period 19 = .ok (.getfield 20, 3) := by decide +kernel
theorem dX10_period_22 : decode cX10_period 22 = .ok (.ifCond .le 7, 3) := by decide +kernel
theorem dX10_period_25 : decode cX10_period 25 = .ok (.dconst 0, 1) := by decide +kernel
theorem dX10_period_26 : decode cX10_period 26 = .ok (.goto 27, 3) := by decide +kernel
theorem dX10_period_29 : decode cX10_period 29 = .ok (.aload_n 0, 1) := by decide +kernel
theorem dX10_period_30 : decode cX10_period 30 = .ok (.getfield 10, 3) := by decide +kernel
theorem dX10_period_33 : decode cX10_period 33 = .ok (.iload_n 1, 1) := by decide +kernel
theorem dX10_period_34 : decode cX10_period 34 = .ok (.invokevirtual 48, 3) := by decide +kernel
theorem dX10_period_37 : decode cX10_period 37 = .ok (.checkcast 35, 3) := by decide +kernel
theorem dX10_period_40 : decode cX10_period 40 = .ok (.getfield 111, 3) := by decide +kernel
theorem dX10_period_43 : decode cX10_period 43 = .ok (.iload_n 2, 1) := by decide +kernel
theorem dX10_period_44 : decode cX10_period 44 = .ok (.invokevirtual 48, 3) := by decide +kernel
theorem dX10_period_47 : decode cX10_period 47 = .ok (.checkcast 98, 3) := by decide +kernel
theorem dX10_period_50 : decode cX10_period 50 = .ok (.getfield 195, 3) := by decide +kernel
theorem dX10_period_53 : decode cX10_period 53 = .ok (.dreturn, 1) := by decide +kernel
set_option maxRecDepth 20000 in
theorem ggX10_sectors_Jx4a65c_init_da8c8 : GoodIn wsX10_sectors wsJx4a65c_init_da8c8 := goodIn_r _ [7, 8, 9, 10, 11, 12, 13, 14, 15, 16, 17, 18, 19, 20, 21, 191, 192, 193] (by decide +kernel) (by decide +kernel)
set_option maxRecDepth 20000 in
theorem gX10_sectors_Jx4a65c_init_da8c8 : GoodIn wsX10_sectors (wsJx4a65c_init_da8c8) := ggX10_sectors_Jx4a65c_init_da8c8
set_option maxRecDepth 20000 in
theorem ggX10_sectors_X8_found : GoodIn wsX10_sectors wsX8_found := goodIn_r _ [26, 27, 2, 3, 28, 6, 7, 8, 9, 10, 11, 12, 13, 14, 15, 16, 17, 18, 19, 20, 21, 29, 30, 31, 25, 32, 33, 34, 35, 36, 37, 38, 39, 40, 41, 42, 43, 44, 45, 46, 47, 48, 49, 50, 51, 52, 53, 54, 55, 56, 57, 58, 59, 60, 61, 62, 63, 64, 65, 66, 67, 68, 69, 70, 71, 72, 73, 74, 75, 76, 77, 78, 79, 80, 81, 82, 83, 84, 85, 86, 87, 88, 89, 90, 91, 92, 93, 94, 95, 96, 97, 98, 99, 100, 101, 102, 103, 104, 105, 106, 107, 108, 109, 110, 111, 112, 113, 114, 115, 116, 117, 118, 119, 120, 121, 122, 123, 124, 125, 126, 127, 128, 129, 130, 131, 132, 133, 134, 135, 136, 137, 138, 139, 140, 141, 142, 143, 144, 145, 146, 147, 148, 149, 150, 151, 152, 153, 154, 155, 156, 157, 158, 159, 160, 161, 162, 163, 164, 165, 166, 167, 168, 169, 170, 171, 172, 173, 174, 175, 176, 177, 178, 179, 180, 181, 182, 183, 184, 185, 186, 191, 192, 193, 205, 206, 207, 208, 209, 210, 211, 194, 195, 196, 197, 198, 199, 200, 201, 202, 203, 204, 212, 213, 214, 215, 216, 217, 218] (by decide +kernel) (by decide +kernel)
set_option maxRecDepth 20000 in
theorem gX10_sectors_X8_found : GoodIn wsX10_sectors (wsV RX10 150 RX8 yX8_found wsX8_found) := goodIn_app (goodIn_of _ (by decide +kernel)) ggX10_sectors_X8_found
set_option maxRecDepth 20000 in
theorem ggX10_sectors_Jx4a65c_iterator_32c93 : GoodIn wsX10_sectors wsJx4a65c_iterator_32c93 := goodIn_r _ [52, 53, 54, 55, 56, 57, 58, 59, 60, 20, 21, 61, 62, 63, 64, 215, 216, 217, 218, 191, 192, 193] (by decide +kernel) (by decide +kernel)
set_option maxRecDepth 20000 in
theorem gX10_sectors_Jx4a65c_iterator_32c93 : GoodIn wsX10_sectors (wsV RX10 154 RJx4a65c yJx4a65c_iterator_32c93 wsJx4a65c_iterator_32c93) := goodIn_app (goodIn_of _ (by decide +kernel)) ggX10_sectors_Jx4a65c_iterator_32c93
set_option maxRecDepth 20000 in
theorem ggX10_sectors_Jx35411_hasNext_aae02 : GoodIn wsX10_sectors wsJx35411_hasNext_aae02 := goodIn_r _ [68, 69, 59, 215, 216, 217, 218, 191, 192, 193] (by decide +kernel) (by decide +kernel)
set_option maxRecDepth 20000 in
theorem gX10_sectors_Jx35411_hasNext_aae02_f158Jx35411 : GoodIn wsX10_sectors (va_wsF RX10 158 RJx35411 ⟨"java/util/Iterator", "hasNext", "()Z"⟩ yJx35411_hasNext_aae02 wsJx35411_hasNext_aae02) := goodIn_app (goodIn_of _ (by decide +kernel)) ggX10_sectors_Jx35411_hasNext_aae02
set_option maxRecDepth 20000 in
theorem ggX10_sectors_Jx35411_next_0502b : GoodIn wsX10_sectors wsJx35411_next_0502b := goodIn_r _ [73, 69, 59, 74, 61, 75, 76, 77, 55, 78, 62, 63, 64, 215, 216, 217, 218, 191, 192, 193] (by decide +kernel) (by decide +kernel)
set_option maxRecDepth 20000 in
theorem gX10_sectors_Jx35411_next_0502b_f163Jx35411 : GoodIn wsX10_sectors (va_wsF RX10 163 RJx35411 ⟨"java/util/Iterator", "next", "()Ljava/lang/Object;"⟩ yJx35411_next_0502b wsJx35411_next_0502b) := goodIn_app (goodIn_of _ (by decide +kernel)) ggX10_sectors_Jx35411_next_0502b
set_option maxRecDepth 20000 in
theorem ggX10_sectors_Jx4a65c_add_9ea2d : GoodIn wsX10_sectors wsJx4a65c_add_9ea2d := goodIn_r _ [142, 143, 63, 9, 48, 144, 145, 146, 3, 147, 148, 149, 150, 151, 152, 153, 154, 155, 8, 156, 157, 42, 158, 159, 160, 161, 162, 163, 164, 165, 166, 167, 168, 169, 170, 171, 172, 173, 174, 175, 176, 177, 178, 179, 180, 181, 182, 41, 43, 183, 184, 185, 186, 191, 192, 193] (by decide +kernel) (by decide +kernel)
set_option maxRecDepth 20000 in
theorem gX10_sectors_Jx4a65c_add_9ea2d : GoodIn wsX10_sectors (wsV RX10 40 RJx4a65c yJx4a65c_add_9ea2d wsJx4a65c_add_9ea2d) := goodIn_app (goodIn_of _ (by decide +kernel)) ggX10_sectors_Jx4a65c_add_9ea2d
theorem dX10_sectors_0 : decode cX10_sectors 0 = .ok (.new 7, 3) := by decide +kernel
theorem dX10_sectors_3 : decode cX10_sectors 3 = .ok (.dup, 1) := by decide +kernel
theorem dX10_sectors_4 : decode cX10_sectors 4 = .ok (.invokespecial 9, 3) := by decide +kernel
theorem dX10_sectors_7 : decode cX10_sectors 7 = .ok (.astore_n 1, 1) := by decide +kernel
theorem dX10_sectors_8 : decode cX10_sectors 8 = .ok (.aload_n 0, 1) := by decide +kernel
theorem dX10_sectors_9 : decode cX10_sectors 9 = .ok (.aload_n 0, 1) := by decide +kernel
theorem dX10_sectors_10 : decode cX10_sectors 10 = .ok (.getfield 129, 3) := by decide +kernel
theorem dX10_sectors_13 : decode cX10_sectors 13 = .ok (.invokevirtual 150, 3) := by decide +kernel
theorem dX10_sectors_16 : decode cX10_sectors 16 = .ok (.invokevirtual 154, 3) := by decide +kernel
theorem dX10_sectors_19 : decode cX10_sectors 19 = .ok (.astore_n 2, 1) := by decide +kernel
theorem dX10_sectors_20 : decode cX10_sectors 20 = .ok (.aload_n 2, 1) := by decide +kernel
theorem dX10_sectors_21 : decode cX10_sectors 21 = .ok (.invokeinterface 158 1, 5) := by decide +kernel
theorem dX10_sectors_26 : decode cX10_sectors 26 = .ok (.ifCond .eq 30, 3) := by decide +kernel
theorem dX10_sectors_29 : decode cX10_sectors 29 = .ok (.aload_n 2, 1) := by decide +kernel
theorem dX10_sectors_30 : decode cX10_sectors 30 = .ok (.invokeinterface 163 1, 5) := by decide +kernel
theorem dX10_sectors_35 : decode cX10_sectors 35 = .ok (.checkcast 167, 3) := by decide +kernel
theorem dX10_sectors_38 : decode cX10_sectors 38 = .ok (.astore_n 3, 1) := by decide +kernel
theorem dX10_sectors_39 : decode cX10_sectors 39 = .ok (.aload_n 3, 1) := by decide +kernel
theorem dX10_sectors_40 : decode cX10_sectors 40 = .ok (.getfield 169, 3) := by decide +kernel
theorem dX10_sectors_43 : decode cX10_sectors 43 = .ok (.iconst 2, 1) := by decide +kernel
theorem dX10_sectors_44 : decode cX10_sectors 44 = .ok (.if_icmp .ne 9, 3) := by decide +kernel
theorem dX10_sectors_47 : decode cX10_sectors 47 = .ok (.aload_n 1, 1) := by decide +kernel
theorem dX10_sectors_48 : decode cX10_sectors 48 = .ok (.aload_n 3, 1) := by decide +kernel
theorem dX10_sectors_49 : decode cX10_sectors 49 = .ok (.invokevirtual 40, 3) := by decide +kernel
theorem dX10_sectors_52 : decode cX10_sectors 52 = .ok (.pop, 1) := by decide +kernel
theorem dX10_sectors_53 : decode cX10_sectors 53 = .ok (.goto (-33), 3) := by decide +kernel
theorem dX10_sectors_56 : decode cX10_sectors 56 = .ok (.aload_n 1, 1) := by decide +kernel
theorem dX10_sectors_57 : decode cX10_sectors 57 = .ok (.areturn, 1) := by decide +kernel
theorem dX10_ofSectorNow_0 : decode cX10_ofSectorNow 0 = .ok (.iload_n 1, 1) := by decide +kernel
theorem dX10_ofSectorNow_1 : decode cX10_ofSectorNow 1 = .ok (.tableswitch 68 0 4 #[35, 40, 45, 50, 63], 35) := by decide +kernel
theorem dX10_ofSectorNow_36 : decode cX10_ofSectorNow 36 = .ok (.aload_n 0, 1) := by decide +kernel
theorem dX10_ofSectorNow_37 : decode cX10_ofSectorNow 37 = .ok (.getfield 199, 3) := by decide +kernel
theorem dX10_ofSectorNow_40 : decode cX10_ofSectorNow 40 = .ok (.ireturn, 1) := by decide +kernel
theorem dX10_ofSectorNow_41 : decode cX10_ofSectorNow 41 = .ok (.aload_n 0, 1) := by decide +kernel
theorem dX10_ofSectorNow_42 : decode cX10_ofSectorNow 42 = .ok (.getfield 202, 3) := by decide +kernel
theorem dX10_ofSectorNow_45 : decode cX10_ofSectorNow 45 = .ok (.ireturn, 1) := by decide +kernel
theorem dX10_ofSectorNow_46 : decode cX10_ofSectorNow 46 = .ok (.aload_n 0, 1) := by decide +kernel
theorem dX10_ofSectorNow_47 : decode cX10_ofSectorNow 47 = .ok (.getfield 205, 3) := by decide +kernel
theorem dX10_ofSectorNow_50 : decode cX10_ofSectorNow 50 = .ok (.ireturn, 1) := by decide +kernel
theorem dX10_ofSectorNow_51 : decode cX10_ofSectorNow 51 = .ok (.aload_n 0, 1) := by decide +kernel
theorem dX10_ofSectorNow_52 : decode cX10_ofSectorNow 52 = .ok (.getfield 172, 3) := by decide +kernel
theorem dX10_ofSectorNow_55 : decode cX10_ofSectorNow 55 = .ok (.ifCond .eq 7, 3) := by decide +kernel
theorem dX10_ofSectorNow_58 : decode cX10_ofSectorNow 58 = .ok (.iconst 1, 1) := by decide +kernel
theorem dX10_ofSectorNow_59 : decode cX10_ofSectorNow 59 = .ok (.goto 4, 3) := by decide +kernel
theorem dX10_ofSectorNow_62 : decode cX10_ofSectorNow 62 = .ok (.iconst 0, 1) := by decide +kernel
theorem dX10_ofSectorNow_63 : decode cX10_ofSectorNow 63 = .ok (.ireturn, 1) := by decide +kernel
theorem dX10_ofSectorNow_64 : decode cX10_ofSectorNow 64 = .ok (.aload_n 0, 1) := by decide +kernel
theorem dX10_ofSectorNow_65 : decode cX10_ofSectorNow 65 = .ok (.getfield 208, 3) := by decide +kernel
theorem dX10_ofSectorNow_68 : decode cX10_ofSectorNow 68 = .ok (.ireturn, 1) := by decide +kernel
theorem dX10_ofSectorNow_69 : decode cX10_ofSectorNow 69 = .ok (.aload_n 0, 1) := by decide +kernel
theorem dX10_ofSectorNow_70 : decode cX10_ofSectorNow 70 = .ok (.getfield 210, 3) := by decide +kernel
theorem dX10_ofSectorNow_73 : decode cX10_ofSectorNow 73 = .ok (.iload_n 1, 1) := by decide +kernel
theorem dX10_ofSectorNow_74 : decode cX10_ofSectorNow 74 = .ok (.iconst 5, 1) := by decide +kernel
theorem dX10_ofSectorNow_75 : decode cX10_ofSectorNow 75 = .ok (.isub, 1) := by decide +kernel
theorem dX10_ofSectorNow_76 : decode cX10_ofSectorNow 76 = .ok (.iaload, 1) := by decide +kernel
theorem dX10_ofSectorNow_77 : decode cX10_ofSectorNow 77 = .ok (.ireturn, 1) := by decide +kernel
set_option maxRecDepth 20000 in
theorem ggX10_ofSector_X10_isTrack : GoodIn wsX10_ofSector wsX10_isTrack := goodIn_r _ [9, 2, 10, 11, 12, 13, 14, 15, 16, 17, 8, 18, 211, 212, 213, 214, 215, 216, 217, 218, 219, 220, 221] (by decide +kernel) (by decide +kernel)
set_option maxRecDepth 20000 in
theorem gX10_ofSector_X10_isTrack : GoodIn wsX10_ofSector (wsV RX10 44 RX10 yX10_isTrack wsX10_isTrack) := goodIn_app (goodIn_of _ (by decide +kernel)) ggX10_ofSector_X10_isTrack
set_option maxRecDepth 20000 in
theorem ggX10_ofSector_X10_refuse : GoodIn wsX10_ofSector wsX10_refuse := goodIn_r _ [22, 1, 211, 212, 213, 214, 215, 216, 217, 218] (by decide +kernel) (by decide +kernel)
set_option maxRecDepth 20000 in
theorem gX10_ofSector_X10_refuse : GoodIn wsX10_ofSector (wsV RX10 31 RX10 yX10_refuse wsX10_refuse) := goodIn_app (goodIn_of _ (by decide +kernel)) ggX10_ofSector_X10_refuse
set_option maxRecDepth 20000 in
theorem ggX10_ofSector_Jx4a65c_get_915e3 : GoodIn wsX10_ofSector wsJx4a65c_get_915e3 := goodIn_r _ [26, 15, 27, 28, 29, 30, 31, 32, 33, 34, 35, 36, 37, 13, 38, 39, 219, 220, 221] (by decide +kernel) (by decide +kernel)
set_option maxRecDepth 20000 in
theorem gX10_ofSector_Jx4a65c_get_915e3 : GoodIn wsX10_ofSector (wsV RX10 48 RJx4a65c yJx4a65c_get_915e3 wsJx4a65c_get_915e3) := goodIn_app (goodIn_of _ (by decide +kernel)) ggX10_ofSector_Jx4a65c_get_915e3
set_option maxRecDepth 20000 in
theorem ggX10_ofSector_X10_sectors : GoodIn wsX10_ofSector wsX10_sectors := goodIn_r _ [42, 43, 44, 13, 4, 45, 46, 47, 48, 39, 49, 50, 51, 52, 53, 54, 55, 56, 57, 58, 59, 60, 61, 62, 63, 64, 65, 66, 67, 68, 69, 70, 71, 72, 73, 74, 75, 76, 77, 78, 79, 80, 81, 82, 83, 84, 85, 86, 15, 87, 88, 89, 90, 91, 92, 93, 94, 95, 96, 97, 98, 99, 100, 101, 102, 103, 104, 105, 106, 107, 108, 109, 110, 111, 112, 113, 114, 115, 116, 117, 118, 119, 120, 121, 122, 123, 124, 125, 126, 127, 11, 12, 14, 128, 24, 25, 26, 27, 28, 29, 30, 31, 32, 33, 34, 35, 36, 37, 38, 129, 130, 131, 132, 133, 134, 135, 136, 137, 138, 139, 140, 141, 142, 143, 144, 145, 146, 147, 148, 149, 150, 151, 152, 153, 154, 155, 17, 8, 18, 156, 157, 158, 159, 160, 161, 162, 163, 164, 165, 166, 167, 168, 169, 170, 171, 172, 173, 174, 175, 176, 177, 178, 179, 180, 181, 182, 183, 184, 185, 186, 187, 188, 189, 190, 191, 192, 193, 194, 195, 196, 197, 198, 199, 200, 201, 202, 203, 204, 205, 206, 207, 219, 220, 221, 222, 223, 224, 225, 226, 227, 228, 229, 230, 231, 232, 233, 234, 235, 236, 237, 238, 239, 240, 241, 242, 243, 244, 245, 246] (by decide +kernel) (by decide +kernel)
set_option maxRecDepth 20000 in
theorem gX10_ofSector_X10_sectors : GoodIn wsX10_ofSector (va_wsS RX10 213 yX10_sectors wsX10_sectors) := goodIn_app (goodIn_of _ (by decide +kernel)) ggX10_ofSector_X10_sectors
set_option maxRecDepth 20000 in
theorem ggX10_ofSector_Jx4a65c_size_8abf5 : GoodIn wsX10_ofSector wsJx4a65c_size_8abf5 := goodIn_r _ [14, 15, 219, 220, 221] (by decide +kernel) (by decide +kernel)
set_option maxRecDepth 20000 in
theorem gX10_ofSector_Jx4a65c_size_8abf5 : GoodIn wsX10_ofSector (wsV RX10 23 RJx4a65c yJx4a65c_size_8abf5 wsJx4a65c_size_8abf5) := goodIn_app (goodIn_of _ (by decide +kernel)) ggX10_ofSector_Jx4a65c_size_8abf5
set_option maxRecDepth 20000 in
theorem ggX10_ofSector_X10_is : GoodIn wsX10_ofSector wsX10_is := goodIn_r _ [18] (by decide +kernel) (by decide +kernel)
set_option maxRecDepth 20000 in
theorem gX10_ofSector_X10_is : GoodIn wsX10_ofSector (va_wsS RX10 27 yX10_is wsX10_is) := goodIn_app (goodIn_of _ (by decide +kernel)) ggX10_ofSector_X10_is
set_option maxRecDepth 20000 in
theorem ggX10_ofSector_X10_ofSectorNow : GoodIn wsX10_ofSector wsX10_ofSectorNow := goodIn_r _ [210, 233, 234, 235, 236, 237, 238, 239] (by decide +kernel) (by decide +kernel)
set_option maxRecDepth 20000 in
theorem gX10_ofSector_X10_ofSectorNow : GoodIn wsX10_ofSector (va_wsS RX10 217 yX10_ofSectorNow wsX10_ofSectorNow) := goodIn_app (goodIn_of _ (by decide +kernel)) ggX10_ofSector_X10_ofSectorNow
theorem dX10_ofSector_0 : decode cX10_ofSector 0 = .ok (.aload_n 0, 1) := by decide +kernel
theorem dX10_ofSector_1 : decode cX10_ofSector 1 = .ok (.iconst 0, 1) := by decide +kernel
theorem dX10_ofSector_2 : decode cX10_ofSector 2 = .ok (.putfield 20, 3) := by decide +kernel
theorem dX10_ofSector_5 : decode cX10_ofSector 5 = .ok (.aload_n 0, 1) := by decide +kernel
theorem dX10_ofSector_6 : decode cX10_ofSector 6 = .ok (.iload_n 1, 1) := by decide +kernel
theorem dX10_ofSector_7 : decode cX10_ofSector 7 = .ok (.invokevirtual 44, 3) := by decide +kernel
theorem dX10_ofSector_10 : decode cX10_ofSector 10 = .ok (.ifCond .ne 9, 3) := by decide +kernel
theorem dX10_ofSector_13 : decode cX10_ofSector 13 = .ok (.aload_n 0, 1) := by decide +kernel
theorem dX10_ofSector_14 : decode cX10_ofSector 14 = .ok (.iconst 1, 1) := by decide +kernel
theorem dX10_ofSector_15 : decode cX10_ofSector 15 = .ok (.invokevirtual 31, 3) := by decide +kernel
theorem dX10_ofSector_18 : decode cX10_ofSector 18 = .ok (.ireturn, 1) := by decide +kernel
theorem dX10_ofSector_19 : decode cX10_ofSector 19 = .ok (.aload_n 0, 1) := by decide +kernel
theorem dX10_ofSector_20 : decode cX10_ofSector 20 = .ok (.getfield 10, 3) := by decide +kernel
theorem dX10_ofSector_23 : decode cX10_ofSector 23 = .ok (.iload_n 1, 1) := by decide +kernel
theorem dX10_ofSector_24 : decode cX10_ofSector 24 = .ok (.invokevirtual 48, 3) := by decide +kernel
theorem dX10_ofSector_27 : decode cX10_ofSector 27 = .ok (.checkcast 35, 3) := by decide +kernel
theorem dX10_ofSector_30 : decode cX10_ofSector 30 = .ok (.invokestatic 213, 3) := by decide +kernel
theorem dX10_ofSector_33 : decode cX10_ofSector 33 = .ok (.astore 4, 2) := by decide +kernel
theorem dX10_ofSector_35 : decode cX10_ofSector 35 = .ok (.iload_n 2, 1) := by decide +kernel
theorem dX10_ofSector_36 : decode cX10_ofSector 36 = .ok (.iconst 0, 1) := by decide +kernel
theorem dX10_ofSector_37 : decode cX10_ofSector 37 = .ok (.aload 4, 2) := by decide +kernel
theorem dX10_ofSector_39 : decode cX10_ofSector 39 = .ok (.invokevirtual 23, 3) := by decide +kernel
theorem dX10_ofSector_42 : decode cX10_ofSector 42 = .ok (.iconst 1, 1) := by decide +kernel
theorem dX10_ofSector_43 : decode cX10_ofSector 43 = .ok (.isub, 1) := by decide +kernel
theorem dX10_ofSector_44 : decode cX10_ofSector 44 = .ok (.invokestatic 27, 3) := by decide +kernel
theorem dX10_ofSector_47 : decode cX10_ofSector 47 = .ok (.ifCond .ne 9, 3) := by decide +kernel
theorem dX10_ofSector_50 : decode cX10_ofSector 50 = .ok (.aload_n 0, 1) := by decide +kernel
theorem dX10_ofSector_51 : decode cX10_ofSector 51 = .ok (.iconst 1, 1) := by decide +kernel
theorem dX10_ofSector_52 : decode cX10_ofSector 52 = .ok (.invokevirtual 31, 3) := by decide +kernel
theorem dX10_ofSector_55 : decode cX10_ofSector 55 = .ok (.ireturn, 1) := by decide +kernel
theorem dX10_ofSector_56 : decode cX10_ofSector 56 = .ok (.iload_n 3, 1) := by decide +kernel
theorem dX10_ofSector_57 : decode cX10_ofSector 57 = .ok (.iconst 0, 1) := by decide +kernel
theorem dX10_ofSector_58 : decode cX10_ofSector 58 = .ok (.bipush 8, 2) := by decide +kernel
theorem dX10_ofSector_60 : decode cX10_ofSector 60 = .ok (.invokestatic 27, 3) := by decide +kernel
theorem dX10_ofSector_63 : decode cX10_ofSector 63 = .ok (.ifCond .eq 19, 3) := by decide +kernel
theorem dX10_ofSector_66 : decode cX10_ofSector 66 = .ok (.aload 4, 2) := by decide +kernel
theorem dX10_ofSector_68 : decode cX10_ofSector 68 = .ok (.iload_n 2, 1) := by decide +kernel
theorem dX10_ofSector_69 : decode cX10_ofSector 69 = .ok (.invokevirtual 48, 3) := by decide +kernel
theorem dX10_ofSector_72 : decode cX10_ofSector 72 = .ok (.checkcast 167, 3) := by decide +kernel
theorem dX10_ofSector_75 : decode cX10_ofSector 75 = .ok (.iload_n 3, 1) := by decide +kernel
theorem dX10_ofSector_76 : decode cX10_ofSector 76 = .ok (.invokestatic 217, 3) := by decide +kernel
theorem dX10_ofSector_79 : decode cX10_ofSector 79 = .ok (.goto 8, 3) := by decide +kernel
theorem dX10_ofSector_82 : decode cX10_ofSector 82 = .ok (.aload_n 0, 1) := by decide +kernel
theorem dX10_ofSector_83 : decode cX10_ofSector 83 = .ok (.iconst 2, 1) := by decide +kernel
theorem dX10_ofSector_84 : decode cX10_ofSector 84 = .ok (.invokevirtual 31, 3) := by decide +kernel
theorem dX10_ofSector_87 : decode cX10_ofSector 87 = .ok (.ireturn, 1) := by decide +kernel
set_option maxRecDepth 20000 in
theorem ggX10_chain_X10_isTrack : GoodIn wsX10_chain wsX10_isTrack := goodIn_r _ [8, 2, 9, 10, 11, 12, 13, 14, 15, 16, 7, 17, 208, 209, 210, 211, 212, 213, 214, 215, 223, 224, 225] (by decide +kernel) (by decide +kernel)
set_option maxRecDepth 20000 in
theorem gX10_chain_X10_isTrack : GoodIn wsX10_chain (wsV RX10 44 RX10 yX10_isTrack wsX10_isTrack) := goodIn_app (goodIn_of _ (by decide +kernel)) ggX10_chain_X10_isTrack
set_option maxRecDepth 20000 in
theorem ggX10_chain_X10_refuse : GoodIn wsX10_chain wsX10_refuse := goodIn_r _ [21, 1, 208, 209, 210, 211, 212, 213, 214, 215] (by decide +kernel) (by decide +kernel)
set_option maxRecDepth 20000 in
theorem gX10_chain_X10_refuse : GoodIn wsX10_chain (wsV RX10 31 RX10 yX10_refuse wsX10_refuse) := goodIn_app (goodIn_of _ (by decide +kernel)) ggX10_chain_X10_refuse
set_option maxRecDepth 20000 in
theorem ggX10_chain_X10_is : GoodIn wsX10_chain wsX10_is := goodIn_r _ [17] (by decide +kernel) (by decide +kernel)
set_option maxRecDepth 20000 in
theorem gX10_chain_X10_is : GoodIn wsX10_chain (va_wsS RX10 27 yX10_is wsX10_is) := goodIn_app (goodIn_of _ (by decide +kernel)) ggX10_chain_X10_is
set_option maxRecDepth 20000 in
theorem ggX10_chain_Jx4a65c_get_915e3 : GoodIn wsX10_chain wsJx4a65c_get_915e3 := goodIn_r _ [25, 14, 26, 27, 28, 29, 30, 31, 32, 33, 34, 35, 36, 12, 37, 38, 223, 224, 225] (by decide +kernel) (by decide +kernel)
set_option maxRecDepth 20000 in
theorem gX10_chain_Jx4a65c_get_915e3 : GoodIn wsX10_chain (wsV RX10 48 RJx4a65c yJx4a65c_get_915e3 wsJx4a65c_get_915e3) := goodIn_app (goodIn_of _ (by decide +kernel)) ggX10_chain_Jx4a65c_get_915e3
set_option maxRecDepth 20000 in
theorem ggX10_chain_X8_kept : GoodIn wsX10_chain wsX8_kept := goodIn_r _ [43, 44, 45, 12, 46, 47, 48, 49, 50, 51, 38, 52, 53, 54, 55, 56, 57, 58, 59, 60, 61, 62, 63, 64, 65, 66, 42, 67, 68, 69, 70, 71, 72, 73, 74, 75, 76, 77, 78, 79, 80, 81, 82, 83, 84, 85, 86, 14, 87, 88, 89, 90, 91, 92, 93, 94, 95, 96, 97, 98, 99, 100, 101, 102, 103, 104, 105, 106, 107, 108, 109, 110, 111, 112, 113, 114, 115, 116, 117, 118, 119, 120, 121, 122, 123, 124, 125, 126, 127, 10, 11, 13, 128, 23, 24, 25, 26, 27, 28, 29, 30, 31, 32, 33, 34, 35, 36, 37, 129, 130, 131, 132, 133, 134, 135, 136, 137, 138, 139, 140, 141, 142, 143, 144, 145, 146, 147, 148, 149, 150, 151, 152, 153, 154, 155, 16, 7, 17, 156, 157, 158, 159, 160, 161, 162, 163, 164, 165, 166, 167, 168, 169, 170, 171, 172, 173, 174, 175, 176, 177, 178, 179, 180, 181, 182, 183, 184, 185, 186, 187, 188, 189, 190, 191, 192, 193, 194, 195, 196, 197, 198, 199, 200, 201, 202, 203, 204, 205, 206, 223, 224, 225, 226, 227, 228, 229, 230, 231, 232, 233, 234, 235, 236, 216, 217, 218, 219, 220, 221, 222, 237, 238, 239, 240, 241, 242, 243] (by decide +kernel) (by decide +kernel)
set_option maxRecDepth 20000 in
theorem gX10_chain_X8_kept : GoodIn wsX10_chain (wsV RX10 221 RX8 yX8_kept wsX8_kept) := goodIn_app (goodIn_of _ (by decide +kernel)) ggX10_chain_X8_kept
set_option maxRecDepth 20000 in
theorem ggX10_chain_Jx4a65c_size_8abf5 : GoodIn wsX10_chain wsJx4a65c_size_8abf5 := goodIn_r _ [13, 14, 223, 224, 225] (by decide +kernel) (by decide +kernel)
set_option maxRecDepth 20000 in
theorem gX10_chain_Jx4a65c_size_8abf5 : GoodIn wsX10_chain (wsV RX10 23 RJx4a65c yJx4a65c_size_8abf5 wsJx4a65c_size_8abf5) := goodIn_app (goodIn_of _ (by decide +kernel)) ggX10_chain_Jx4a65c_size_8abf5
set_option maxRecDepth 20000 in
theorem ggX10_chain_X8_firstGood : GoodIn wsX10_chain wsX8_firstGood := goodIn_r _ [206, 47, 87, 88, 89, 12, 90, 91, 92, 93, 94, 95, 96, 97, 98, 62, 63, 99, 100, 101, 102, 103, 104, 105, 106, 107, 108, 109, 110, 111, 112, 113, 114, 115, 116, 216, 217, 218, 219, 220, 221, 222, 240, 241, 242, 243, 223, 224, 225] (by decide +kernel) (by decide +kernel)
set_option maxRecDepth 20000 in
theorem gX10_chain_X8_firstGood : GoodIn wsX10_chain (va_wsS RX10 225 yX8_firstGood wsX8_firstGood) := goodIn_app (goodIn_of _ (by decide +kernel)) ggX10_chain_X8_firstGood
theorem dX10_chain_0 : decode cX10_chain 0 = .ok (.aload_n 0, 1) := by decide +kernel
theorem dX10_chain_1 : decode cX10_chain 1 = .ok (.iconst 0, 1) := by decide +kernel
theorem dX10_chain_2 : decode cX10_chain 2 = .ok (.putfield 20, 3) := by decide +kernel
theorem dX10_chain_5 : decode cX10_chain 5 = .ok (.aload_n 0, 1) := by decide +kernel
theorem dX10_chain_6 : decode cX10_chain 6 = .ok (.iload_n 1, 1) := by decide +kernel
theorem dX10_chain_7 : decode cX10_chain 7 = .ok (.invokevirtual 44, 3) := by decide +kernel
theorem dX10_chain_10 : decode cX10_chain 10 = .ok (.ifCond .ne 9, 3) := by decide +kernel
theorem dX10_chain_13 : decode cX10_chain 13 = .ok (.aload_n 0, 1) := by decide +kernel
theorem dX10_chain_14 : decode cX10_chain 14 = .ok (.iconst 1, 1) := by decide +kernel
theorem dX10_chain_15 : decode cX10_chain 15 = .ok (.invokevirtual 31, 3) := by decide +kernel
theorem dX10_chain_18 : decode cX10_chain 18 = .ok (.ireturn, 1) := by decide +kernel
theorem dX10_chain_19 : decode cX10_chain 19 = .ok (.iload_n 2, 1) := by decide +kernel
theorem dX10_chain_20 : decode cX10_chain 20 = .ok (.iconst 0, 1) := by decide +kernel
theorem dX10_chain_21 : decode cX10_chain 21 = .ok (.sipush 255, 3) := by decide +kernel
theorem dX10_chain_24 : decode cX10_chain 24 = .ok (.invokestatic 27, 3) := by decide +kernel
theorem dX10_chain_27 : decode cX10_chain 27 = .ok (.ifCond .ne 9, 3) := by decide +kernel
theorem dX10_chain_30 : decode cX10_chain 30 = .ok (.aload_n 0, 1) := by decide +kernel
theorem dX10_chain_31 : decode cX10_chain 31 = .ok (.iconst 2, 1) := by decide +kernel
theorem dX10_chain_32 : decode cX10_chain 32 = .ok (.invokevirtual 31, 3) := by decide +kernel
theorem dX10_chain_35 : decode cX10_chain 35 = .ok (.ireturn, 1) := by decide +kernel
theorem dX10_chain_36 : decode cX10_chain 36 = .ok (.aload_n 0, 1) := by decide +kernel
theorem dX10_chain_37 : decode cX10_chain 37 = .ok (.getfield 10, 3) := by decide +kernel
theorem dX10_chain_40 : decode cX10_chain 40 = .ok (.iload_n 1, 1) := by decide +kernel
theorem dX10_chain_41 : decode cX10_chain 41 = .ok (.invokevirtual 48, 3) := by decide +kernel
theorem dX10_chain_44 : decode cX10_chain 44 = .ok (.checkcast 35, 3) := by decide +kernel
theorem dX10_chain_47 : decode cX10_chain 47 = .ok (.invokevirtual 221, 3) := by decide +kernel
theorem dX10_chain_50 : decode cX10_chain 50 = .ok (.astore_n 3, 1) := by decide +kernel
theorem dX10_chain_51 : decode cX10_chain 51 = .ok (.iload_n 2, 1) := by decide +kernel
theorem dX10_chain_52 : decode cX10_chain 52 = .ok (.istore 4, 2) := by decide +kernel
theorem dX10_chain_54 : decode cX10_chain 54 = .ok (.iconst 1, 1) := by decide +kernel
theorem dX10_chain_55 : decode cX10_chain 55 = .ok (.istore 5, 2) := by decide +kernel
theorem dX10_chain_57 : decode cX10_chain 57 = .ok (.iload 5, 2) := by decide +kernel
theorem dX10_chain_59 : decode cX10_chain 59 = .ok (.aload_n 3, 1) := by decide +kernel
theorem dX10_chain_60 : decode cX10_chain 60 = .ok (.invokevirtual 23, 3) := by decide +kernel
theorem dX10_chain_63 : decode cX10_chain 63 = .ok (.if_icmp .gt 44, 3) := by decide +kernel
theorem dX10_chain_66 : decode cX10_chain 66 = .ok (.aload_n 3, 1) := by decide +kernel
theorem dX10_chain_67 : decode cX10_chain 67 = .ok (.iload 4, 2) := by decide +kernel
theorem dX10_chain_69 : decode cX10_chain 69 = .ok (.invokestatic 225, 3) := by decide +kernel
theorem dX10_chain_72 : decode cX10_chain 72 = .ok (.astore 6, 2) := by decide +kernel
theorem dX10_chain_74 : decode cX10_chain 74 = .ok (.aload 6, 2) := by decide +kernel
theorem dX10_chain_76 : decode cX10_chain 76 = .ok (.ifnonnull 5, 3) := by decide +kernel
theorem dX10_chain_79 : decode cX10_chain 79 = .ok (.iconst (-1), 1) := by decide +kernel
theorem dX10_chain_80 : decode cX10_chain 80 = .ok (.ireturn, 1) := by decide +kernel
theorem dX10_chain_81 : decode cX10_chain 81 = .ok (.aload 6, 2) := by decide +kernel
theorem dX10_chain_83 : decode cX10_chain 83 = .ok (.getfield 210, 3) := by decide +kernel
theorem dX10_chain_86 : decode cX10_chain 86 = .ok (.iconst 0, 1) := by decide +kernel
theorem dX10_chain_87 : decode cX10_chain 87 = .ok (.iaload, 1) := by decide +kernel
theorem dX10_chain_88 : decode cX10_chain 88 = .ok (.istore 4, 2) := by decide +kernel
theorem dX10_chain_90 : decode cX10_chain 90 = .ok (.iload 4, 2) := by decide +kernel
theorem dX10_chain_92 : decode cX10_chain 92 = .ok (.sipush 255, 3) := by decide +kernel
theorem dX10_chain_95 : decode cX10_chain 95 = .ok (.if_icmp .ne 6, 3) := by decide +kernel
theorem dX10_chain_98 : decode cX10_chain 98 = .ok (.iload 5, 2) := by decide +kernel
theorem dX10_chain_100 : decode cX10_chain 100 = .ok (.ireturn, 1) := by decide +kernel
theorem dX10_chain_101 : decode cX10_chain 101 = .ok (.iinc 5 1, 3) := by decide +kernel
theorem dX10_chain_104 : decode cX10_chain 104 = .ok (.goto (-47), 3) := by decide +kernel
theorem dX10_chain_107 : decode cX10_chain 107 = .ok (.iconst (-1), 1) := by decide +kernel
theorem dX10_chain_108 : decode cX10_chain 108 = .ok (.ireturn, 1) := by decide +kernel
set_option maxRecDepth 20000 in
theorem ggX10_manyNow_Jx4a65c_iterator_32c93 : GoodIn wsX10_manyNow wsJx4a65c_iterator_32c93 := goodIn_r _ [13, 14, 15, 16, 17, 18, 19, 20, 21, 22, 23, 24, 25, 26, 27, 63, 64, 65, 66, 67, 68, 69] (by decide +kernel) (by decide +kernel)
set_option maxRecDepth 20000 in
theorem gX10_manyNow_Jx4a65c_iterator_32c93 : GoodIn wsX10_manyNow (wsV RX10 154 RJx4a65c yJx4a65c_iterator_32c93 wsJx4a65c_iterator_32c93) := goodIn_app (goodIn_of _ (by decide +kernel)) ggX10_manyNow_Jx4a65c_iterator_32c93
set_option maxRecDepth 20000 in
theorem ggX10_manyNow_Jx35411_hasNext_aae02 : GoodIn wsX10_manyNow wsJx35411_hasNext_aae02 := goodIn_r _ [31, 32, 20, 63, 64, 65, 66, 67, 68, 69] (by decide +kernel) (by decide +kernel)
set_option maxRecDepth 20000 in
theorem gX10_manyNow_Jx35411_hasNext_aae02_f158Jx35411 : GoodIn wsX10_manyNow (va_wsF RX10 158 RJx35411 ⟨"java/util/Iterator", "hasNext", "()Z"⟩ yJx35411_hasNext_aae02 wsJx35411_hasNext_aae02) := goodIn_app (goodIn_of _ (by decide +kernel)) ggX10_manyNow_Jx35411_hasNext_aae02
set_option maxRecDepth 20000 in
theorem ggX10_manyNow_Jx35411_next_0502b : GoodIn wsX10_manyNow wsJx35411_next_0502b := goodIn_r _ [36, 32, 20, 37, 24, 38, 39, 40, 16, 41, 25, 26, 27, 63, 64, 65, 66, 67, 68, 69] (by decide +kernel) (by decide +kernel)
set_option maxRecDepth 20000 in
theorem gX10_manyNow_Jx35411_next_0502b_f163Jx35411 : GoodIn wsX10_manyNow (va_wsF RX10 163 RJx35411 ⟨"java/util/Iterator", "next", "()Ljava/lang/Object;"⟩ yJx35411_next_0502b wsJx35411_next_0502b) := goodIn_app (goodIn_of _ (by decide +kernel)) ggX10_manyNow_Jx35411_next_0502b
set_option maxRecDepth 20000 in
theorem ggX10_manyNow_X8_sum : GoodIn wsX10_manyNow wsX8_sum := goodIn_r _ [46, 47, 48, 49, 70, 71, 72, 73, 74, 75, 76, 77, 78, 79, 80] (by decide +kernel) (by decide +kernel)
set_option maxRecDepth 20000 in
theorem gX10_manyNow_X8_sum : GoodIn wsX10_manyNow (wsV RX10 89 RX8 yX8_sum wsX8_sum) := goodIn_app (goodIn_of _ (by decide +kernel)) ggX10_manyNow_X8_sum
set_option maxRecDepth 20000 in
theorem ggX10_manyNow_Jx4a65c_size_8abf5 : GoodIn wsX10_manyNow wsJx4a65c_size_8abf5 := goodIn_r _ [53, 54, 67, 68, 69] (by decide +kernel) (by decide +kernel)
set_option maxRecDepth 20000 in
theorem gX10_manyNow_Jx4a65c_size_8abf5 : GoodIn wsX10_manyNow (wsV RX10 23 RJx4a65c yJx4a65c_size_8abf5 wsJx4a65c_size_8abf5) := goodIn_app (goodIn_of _ (by decide +kernel)) ggX10_manyNow_Jx4a65c_size_8abf5
theorem dX10_manyNow_0 : decode cX10_manyNow 0 = .ok (.iconst 0, 1) := by decide +kernel
theorem dX10_manyNow_1 : decode cX10_manyNow 1 = .ok (.istore_n 2, 1) := by decide +kernel
theorem dX10_manyNow_2 : decode cX10_manyNow 2 = .ok (.aload_n 0, 1) := by decide +kernel
theorem dX10_manyNow_3 : decode cX10_manyNow 3 = .ok (.getfield 10, 3) := by decide +kernel
theorem dX10_manyNow_6 : decode cX10_manyNow 6 = .ok (.invokevirtual 154, 3) := by decide +kernel
theorem dX10_manyNow_9 : decode cX10_manyNow 9 = .ok (.astore_n 3, 1) := by decide +kernel
theorem dX10_manyNow_10 : decode cX10_manyNow 10 = .ok (.aload_n 3, 1) := by decide +kernel
theorem dX10_manyNow_11 : decode cX10_manyNow 11 = .ok (.invokeinterface 158 1, 5) := by decide +kernel
theorem dX10_manyNow_16 : decode cX10_manyNow 16 = .ok (.ifCond .eq 26, 3) := by decide +kernel
theorem dX10_manyNow_19 : decode cX10_manyNow 19 = .ok (.aload_n 3, 1) := by decide +kernel
theorem dX10_manyNow_20 : decode cX10_manyNow 20 = .ok (.invokeinterface 163 1, 5) := by decide +kernel
theorem dX10_manyNow_25 : decode cX10_manyNow 25 = .ok (.checkcast 35, 3) := by decide +kernel
theorem dX10_manyNow_28 : decode cX10_manyNow 28 = .ok (.astore 4, 2) := by decide +kernel
theorem dX10_manyNow_30 : decode cX10_manyNow 30 = .ok (.iload_n 2, 1) := by decide +kernel
theorem dX10_manyNow_31 : decode cX10_manyNow 31 = .ok (.aload 4, 2) := by decide +kernel
theorem dX10_manyNow_33 : decode cX10_manyNow 33 = .ok (.iconst 2, 1) := by decide +kernel
theorem dX10_manyNow_34 : decode cX10_manyNow 34 = .ok (.invokevirtual 89, 3) := by decide +kernel
theorem dX10_manyNow_37 : decode cX10_manyNow 37 = .ok (.iadd, 1) := by decide +kernel
theorem dX10_manyNow_38 : decode cX10_manyNow 38 = .ok (.istore_n 2, 1) := by decide +kernel
theorem dX10_manyNow_39 : decode cX10_manyNow 39 = .ok (.goto (-29), 3) := by decide +kernel
theorem dX10_manyNow_42 : decode cX10_manyNow 42 = .ok (.bipush 7, 2) := by decide +kernel
theorem dX10_manyNow_44 : decode cX10_manyNow 44 = .ok (.newarray .int, 2) := by decide +kernel
theorem dX10_manyNow_46 : decode cX10_manyNow 46 = .ok (.dup, 1) := by decide +kernel
theorem dX10_manyNow_47 : decode cX10_manyNow 47 = .ok (.iconst 0, 1) := by decide +kernel
theorem dX10_manyNow_48 : decode cX10_manyNow 48 = .ok (.aload_n 0, 1) := by decide +kernel
theorem dX10_manyNow_49 : decode cX10_manyNow 49 = .ok (.getfield 10, 3) := by decide +kernel
theorem dX10_manyNow_52 : decode cX10_manyNow 52 = .ok (.invokevirtual 23, 3) := by decide +kernel
theorem dX10_manyNow_55 : decode cX10_manyNow 55 = .ok (.iastore, 1) := by decide +kernel
theorem dX10_manyNow_56 : decode cX10_manyNow 56 = .ok (.dup, 1) := by decide +kernel
theorem dX10_manyNow_57 : decode cX10_manyNow 57 = .ok (.iconst 1, 1) := by decide +kernel
theorem dX10_manyNow_58 : decode cX10_manyNow 58 = .ok (.aload_n 0, 1) := by decide +kernel
theorem dX10_manyNow_59 : decode cX10_manyNow 59 = .ok (.getfield 16, 3) := by decide +kernel
theorem dX10_manyNow_62 : decode cX10_manyNow 62 = .ok (.iastore, 1) := by decide +kernel
theorem dX10_manyNow_63 : decode cX10_manyNow 63 = .ok (.dup, 1) := by decide +kernel
theorem dX10_manyNow_64 : decode cX10_manyNow 64 = .ok (.iconst 2, 1) := by decide +kernel
theorem dX10_manyNow_65 : decode cX10_manyNow 65 = .ok (.aload_n 0, 1) := by decide +kernel
theorem dX10_manyNow_66 : decode cX10_manyNow 66 = .ok (.getfield 95, 3) := by decide +kernel
theorem dX10_manyNow_69 : decode cX10_manyNow 69 = .ok (.iastore, 1) := by decide +kernel
theorem dX10_manyNow_70 : decode cX10_manyNow 70 = .ok (.dup, 1) := by decide +kernel
theorem dX10_manyNow_71 : decode cX10_manyNow 71 = .ok (.iconst 3, 1) := by decide +kernel
theorem dX10_manyNow_72 : decode cX10_manyNow 72 = .ok (.aload_n 0, 1) := by decide +kernel
theorem dX10_manyNow_73 : decode cX10_manyNow 73 = .ok (.getfield 120, 3) := by decide +kernel
theorem dX10_manyNow_76 : decode cX10_manyNow 76 = .ok (.iastore, 1) := by decide +kernel
theorem dX10_manyNow_77 : decode cX10_manyNow 77 = .ok (.dup, 1) := by decide +kernel
theorem dX10_manyNow_78 : decode cX10_manyNow 78 = .ok (.iconst 4, 1) := by decide +kernel
theorem dX10_manyNow_79 : decode cX10_manyNow 79 = .ok (.iload_n 2, 1) := by decide +kernel
theorem dX10_manyNow_80 : decode cX10_manyNow 80 = .ok (.iastore, 1) := by decide +kernel
theorem dX10_manyNow_81 : decode cX10_manyNow 81 = .ok (.dup, 1) := by decide +kernel
theorem dX10_manyNow_82 : decode cX10_manyNow 82 = .ok (.iconst 5, 1) := by decide +kernel
theorem dX10_manyNow_83 : decode cX10_manyNow 83 = .ok (.aload_n 0, 1) := by decide +kernel
theorem dX10_manyNow_84 : decode cX10_manyNow 84 = .ok (.getfield 147, 3) := by decide +kernel
theorem dX10_manyNow_87 : decode cX10_manyNow 87 = .ok (.iastore, 1) := by decide +kernel
theorem dX10_manyNow_88 : decode cX10_manyNow 88 = .ok (.dup, 1) := by decide +kernel
theorem dX10_manyNow_89 : decode cX10_manyNow 89 = .ok (.bipush 6, 2) := by decide +kernel
theorem dX10_manyNow_91 : decode cX10_manyNow 91 = .ok (.aload_n 0, 1) := by decide +kernel
theorem dX10_manyNow_92 : decode cX10_manyNow 92 = .ok (.getfield 144, 3) := by decide +kernel
theorem dX10_manyNow_95 : decode cX10_manyNow 95 = .ok (.iastore, 1) := by decide +kernel
theorem dX10_manyNow_96 : decode cX10_manyNow 96 = .ok (.astore_n 3, 1) := by decide +kernel
theorem dX10_manyNow_97 : decode cX10_manyNow 97 = .ok (.aload_n 3, 1) := by decide +kernel
theorem dX10_manyNow_98 : decode cX10_manyNow 98 = .ok (.iload_n 1, 1) := by decide +kernel
theorem dX10_manyNow_99 : decode cX10_manyNow 99 = .ok (.iaload, 1) := by decide +kernel
theorem dX10_manyNow_100 : decode cX10_manyNow 100 = .ok (.ireturn, 1) := by decide +kernel
set_option maxRecDepth 20000 in
theorem ggX10_many_X10_is : GoodIn wsX10_many wsX10_is := goodIn_r _ [5] (by decide +kernel) (by decide +kernel)
set_option maxRecDepth 20000 in
theorem gX10_many_X10_is : GoodIn wsX10_many (va_wsS RX10 27 yX10_is wsX10_is) := goodIn_app (goodIn_of _ (by decide +kernel)) ggX10_many_X10_is
set_option maxRecDepth 20000 in
theorem ggX10_many_X10_manyNow : GoodIn wsX10_many wsX10_manyNow := goodIn_r _ [9, 10, 11, 12, 13, 14, 15, 16, 17, 18, 19, 20, 21, 22, 23, 24, 25, 26, 27, 28, 29, 30, 31, 32, 33, 34, 35, 36, 37, 38, 39, 40, 41, 42, 43, 44, 45, 46, 47, 48, 49, 50, 51, 52, 53, 54, 55, 56, 57, 58, 59, 60, 61, 62, 63, 68, 69, 70, 71, 72, 73, 74, 75, 76, 77, 78, 79, 80, 81, 82, 83, 84, 85, 86, 87, 88, 89, 90, 91, 92, 93] (by decide +kernel) (by decide +kernel)
set_option maxRecDepth 20000 in
theorem gX10_many_X10_manyNow : GoodIn wsX10_many (wsV RX10 229 RX10 yX10_manyNow wsX10_manyNow) := goodIn_app (goodIn_of _ (by decide +kernel)) ggX10_many_X10_manyNow
set_option maxRecDepth 20000 in
theorem ggX10_many_X10_refuse : GoodIn wsX10_many wsX10_refuse := goodIn_r _ [67, 1, 68, 69, 70, 71, 72, 73, 74, 75] (by decide +kernel) (by decide +kernel)
set_option maxRecDepth 20000 in
theorem gX10_many_X10_refuse : GoodIn wsX10_many (wsV RX10 31 RX10 yX10_refuse wsX10_refuse) := goodIn_app (goodIn_of _ (by decide +kernel)) ggX10_many_X10_refuse
theorem dX10_many_0 : decode cX10_many 0 = .ok (.aload_n 0, 1) := by decide +kernel
theorem dX10_many_1 : decode cX10_many 1 = .ok (.iconst 0, 1) := by decide +kernel
theorem dX10_many_2 : decode cX10_many 2 = .ok (.putfield 20, 3) := by decide +kernel
theorem dX10_many_5 : decode cX10_many 5 = .ok (.iload_n 1, 1) := by decide +kernel
theorem dX10_many_6 : decode cX10_many 6 = .ok (.iconst 0, 1) := by decide +kernel
theorem dX10_many_7 : decode cX10_many 7 = .ok (.bipush 6, 2) := by decide +kernel
theorem dX10_many_9 : decode cX10_many 9 = .ok (.invokestatic 27, 3) := by decide +kernel
theorem dX10_many_12 : decode cX10_many 12 = .ok (.ifCond .eq 11, 3) := by decide +kernel
theorem dX10_many_15 : decode cX10_many 15 = .ok (.aload_n 0, 1) := by decide +kernel
theorem dX10_many_16 : decode cX10_many 16 = .ok (.iload_n 1, 1) := by decide +kernel
theorem dX10_many_17 : decode cX10_many 17 = .ok (.invokevirtual 229, 3) := by decide +kernel
theorem dX10_many_20 : decode cX10_many 20 = .ok (.goto 8, 3) := by decide +kernel
theorem dX10_many_23 : decode cX10_many 23 = .ok (.aload_n 0, 1) := by decide +kernel
theorem dX10_many_24 : decode cX10_many 24 = .ok (.iconst 1, 1) := by decide +kernel
theorem dX10_many_25 : decode cX10_many 25 = .ok (.invokevirtual 31, 3) := by decide +kernel
theorem dX10_many_28 : decode cX10_many 28 = .ok (.ireturn, 1) := by decide +kernel
set_option maxRecDepth 20000 in
theorem ggX10_sure_X10_isTrack : GoodIn wsX10_sure wsX10_isTrack := goodIn_r _ [8, 2, 9, 10, 11, 12, 13, 14, 15, 16, 7, 17, 101, 102, 103, 104, 105, 106, 107, 108, 109, 110, 111] (by decide +kernel) (by decide +kernel)
set_option maxRecDepth 20000 in
theorem gX10_sure_X10_isTrack : GoodIn wsX10_sure (wsV RX10 44 RX10 yX10_isTrack wsX10_isTrack) := goodIn_app (goodIn_of _ (by decide +kernel)) ggX10_sure_X10_isTrack
set_option maxRecDepth 20000 in
theorem ggX10_sure_Jx4a65c_get_915e3 : GoodIn wsX10_sure wsJx4a65c_get_915e3 := goodIn_r _ [21, 14, 22, 23, 24, 25, 26, 27, 28, 29, 30, 31, 32, 12, 33, 34, 109, 110, 111] (by decide +kernel) (by decide +kernel)
set_option maxRecDepth 20000 in
theorem gX10_sure_Jx4a65c_get_915e3 : GoodIn wsX10_sure (wsV RX10 48 RJx4a65c yJx4a65c_get_915e3 wsJx4a65c_get_915e3) := goodIn_app (goodIn_of _ (by decide +kernel)) ggX10_sure_Jx4a65c_get_915e3
set_option maxRecDepth 20000 in
theorem ggX10_sure_X8_shortest : GoodIn wsX10_sure wsX8_shortest := goodIn_r _ [39, 40, 41, 42, 43, 44, 45, 46, 47, 48, 12, 49, 14, 50, 51, 52, 53, 54, 55, 56, 57, 58, 59, 60, 61, 62, 63, 64, 65, 66, 67, 68, 69, 70, 71, 72, 73, 74, 75, 76, 77, 78, 79, 80, 81, 112, 113, 114, 115, 116, 117, 118, 119, 120, 121, 122, 123, 124, 125, 109, 110, 111, 126, 127, 128, 129] (by decide +kernel) (by decide +kernel)
set_option maxRecDepth 20000 in
theorem gX10_sure_X8_shortest : GoodIn wsX10_sure (wsV RX10 132 RX8 yX8_shortest wsX8_shortest) := goodIn_app (goodIn_of _ (by decide +kernel)) ggX10_sure_X8_shortest
set_option maxRecDepth 20000 in
theorem ggX10_sure_X8_unsure : GoodIn wsX10_sure wsX8_unsure := goodIn_r _ [85, 40, 41, 86, 87, 88, 38, 89, 90, 91, 44, 92, 50, 51, 52, 12, 53, 54, 55, 56, 57, 58, 59, 60, 61, 62, 63, 64, 65, 66, 67, 68, 69, 70, 71, 72, 73, 74, 75, 76, 77, 78, 79, 80, 81, 93, 36, 37, 39, 42, 43, 45, 46, 47, 48, 49, 14, 94, 95, 96, 97, 98, 99, 100, 10, 11, 13, 112, 113, 114, 115, 116, 117, 118, 119, 120, 121, 122, 123, 124, 125, 126, 127, 128, 129, 109, 110, 111] (by decide +kernel) (by decide +kernel)
set_option maxRecDepth 20000 in
theorem gX10_sure_X8_unsure : GoodIn wsX10_sure (wsV RX10 176 RX8 yX8_unsure wsX8_unsure) := goodIn_app (goodIn_of _ (by decide +kernel)) ggX10_sure_X8_unsure
theorem dX10_sure_0 : decode cX10_sure 0 = .ok (.aload_n 0, 1) := by decide +kernel
theorem dX10_sure_1 : decode cX10_sure 1 = .ok (.aload_n 0, 1) := by decide +kernel
theorem dX10_sure_2 : decode cX10_sure 2 = .ok (.iload_n 1, 1) := by decide +kernel
theorem dX10_sure_3 : decode cX10_sure 3 = .ok (.invokevirtual 44, 3) := by decide +kernel
theorem dX10_sure_6 : decode cX10_sure 6 = .ok (.ifCond .eq 7, 3) := by decide +kernel
theorem dX10_sure_9 : decode cX10_sure 9 = .ok (.iconst 0, 1) := by decide +kernel
theorem dX10_sure_10 : decode cX10_sure 10 = .ok (.goto 4, 3) := by decide +kernel
theorem dX10_sure_13 : decode cX10_sure 13 = .ok (.iconst 1, 1) := by decide +kernel
theorem dX10_sure_14 : decode cX10_sure 14 = .ok (.putfield 20, 3) := by decide +kernel
theorem dX10_sure_17 : decode cX10_sure 17 = .ok (.aload_n 0, 1) := by decide +kernel
theorem dX10_sure_18 : decode cX10_sure 18 = .ok (.getfield 20, 3) := by decide +kernel
theorem dX10_sure_21 : decode cX10_sure 21 = .ok (.ifCond .le 5, 3) := by decide +kernel
theorem dX10_sure_24 : decode cX10_sure 24 = .ok (.dconst 0, 1) := by decide +kernel
theorem dX10_sure_25 : decode cX10_sure 25 = .ok (.dreturn, 1) := by decide +kernel
theorem dX10_sure_26 : decode cX10_sure 26 = .ok (.aload_n 0, 1) := by decide +kernel
theorem dX10_sure_27 : decode cX10_sure 27 = .ok (.getfield 10, 3) := by decide +kernel
theorem dX10_sure_30 : decode cX10_sure 30 = .ok (.iload_n 1, 1) := by decide +kernel
theorem dX10_sure_31 : decode cX10_sure 31 = .ok (.invokevirtual 48, 3) := by decide +kernel
theorem dX10_sure_34 : decode cX10_sure 34 = .ok (.checkcast 35, 3) := by decide +kernel
theorem dX10_sure_37 : decode cX10_sure 37 = .ok (.astore_n 2, 1) := by decide +kernel
theorem dX10_sure_38 : decode cX10_sure 38 = .ok (.aload_n 2, 1) := by decide +kernel
theorem dX10_sure_39 : decode cX10_sure 39 = .ok (.invokevirtual 132, 3) := by decide +kernel
theorem dX10_sure_42 : decode cX10_sure 42 = .ok (.aload_n 2, 1) := by decide +kernel
theorem dX10_sure_43 : decode cX10_sure 43 = .ok (.invokevirtual 176, 3) := by decide +kernel
theorem dX10_sure_46 : decode cX10_sure 46 = .ok (.iadd, 1) := by decide +kernel
theorem dX10_sure_47 : decode cX10_sure 47 = .ok (.istore_n 3, 1) := by decide +kernel
theorem dX10_sure_48 : decode cX10_sure 48 = .ok (.iload_n 3, 1) := by decide +kernel
theorem dX10_sure_49 : decode cX10_sure 49 = .ok (.ifCond .ne 7, 3) := by decide +kernel
theorem dX10_sure_52 : decode cX10_sure 52 = .ok (.dconst 0, 1) := by decide +kernel
theorem dX10_sure_53 : decode cX10_sure 53 = .ok (.goto 13, 3) := by decide +kernel
theorem dX10_sure_56 : decode cX10_sure 56 = .ok (.dconst 1, 1) := by decide +kernel
theorem dX10_sure_57 : decode cX10_sure 57 = .ok (.aload_n 2, 1) := by decide +kernel
theorem dX10_sure_58 : decode cX10_sure 58 = .ok (.invokevirtual 176, 3) := by decide +kernel
theorem dX10_sure_61 : decode cX10_sure 61 = .ok (.i2d, 1) := by decide +kernel
theorem dX10_sure_62 : decode cX10_sure 62 = .ok (.iload_n 3, 1) := by decide +kernel
theorem dX10_sure_63 : decode cX10_sure 63 = .ok (.i2d, 1) := by decide +kernel
theorem dX10_sure_64 : decode cX10_sure 64 = .ok (.ddiv, 1) := by decide +kernel
theorem dX10_sure_65 : decode cX10_sure 65 = .ok (.dsub, 1) := by decide +kernel
theorem dX10_sure_66 : decode cX10_sure 66 = .ok (.dreturn, 1) := by decide +kernel
set_option maxRecDepth 20000 in
theorem ggX10_plainOf_X8_init : GoodIn wsX10_plainOf wsX8_init := goodIn_r _ [6, 7, 8, 9, 10, 11, 12, 13, 14, 15, 16, 17, 18, 19, 20, 21, 22, 23, 24, 25, 26, 27, 28, 29, 30, 31, 32, 33, 34, 35, 36, 37, 235, 236, 237, 238, 239, 240, 241, 242, 243, 244, 245, 246, 247, 248] (by decide +kernel) (by decide +kernel)
set_option maxRecDepth 20000 in
theorem gX10_plainOf_X8_init : GoodIn wsX10_plainOf (wsX8_init) := ggX10_plainOf_X8_init
set_option maxRecDepth 20000 in
theorem ggX10_plainOf_X8_plainFrom : GoodIn wsX10_plainOf wsX8_plainFrom := goodIn_r _ [41, 42, 43, 44, 45, 46, 3, 47, 18, 19, 20, 22, 23, 24, 25, 26, 27, 28, 29, 30, 31, 32, 33, 34, 35, 36, 37, 8, 9, 48, 49, 50, 51, 52, 53, 54, 55, 10, 56, 57, 58, 59, 21, 60, 61, 62, 63, 64, 65, 66, 67, 68, 69, 70, 71, 72, 73, 74, 75, 76, 77, 78, 79, 80, 81, 82, 83, 84, 85, 86, 87, 88, 89, 90, 91, 92, 93, 94, 95, 96, 97, 98, 99, 100, 101, 102, 103, 104, 105, 106, 107, 108, 109, 110, 111, 112, 113, 114, 115, 116, 117, 118, 119, 120, 121, 122, 123, 124, 125, 126, 127, 128, 129, 130, 131, 132, 133, 134, 135, 136, 137, 138, 139, 140, 141, 142, 143, 144, 145, 146, 147, 148, 149, 150, 151, 152, 153, 154, 155, 11, 156, 157, 158, 159, 160, 161, 162, 163, 164, 165, 166, 167, 168, 169, 170, 171, 172, 173, 174, 175, 176, 177, 178, 179, 180, 181, 182, 183, 184, 185, 186, 187, 188, 189, 190, 191, 192, 193, 194, 195, 196, 197, 198, 199, 200, 201, 202, 203, 204, 205, 206, 207, 208, 209, 210, 211, 212, 213, 214, 215, 216, 217, 218, 219, 220, 221, 222, 223, 224, 225, 226, 227, 228, 229, 230, 12, 13, 15, 16, 17, 231, 232, 233, 234, 235, 236, 237, 238, 239, 240, 241, 242, 243, 244, 245, 249, 250, 251, 252, 253, 254, 255, 246, 247, 248, 256, 257, 258, 259, 260, 261, 262] (by decide +kernel) (by decide +kernel)
set_option maxRecDepth 20000 in
theorem gX10_plainOf_X8_plainFrom : GoodIn wsX10_plainOf (wsV RX10 140 RX8 yX8_plainFrom wsX8_plainFrom) := goodIn_app (goodIn_of _ (by decide +kernel)) ggX10_plainOf_X8_plainFrom
theorem dX10_plainOf_0 : decode cX10_plainOf 0 = .ok (.new 35, 3) := by decide +kernel
theorem dX10_plainOf_3 : decode cX10_plainOf 3 = .ok (.dup, 1) := by decide +kernel
theorem dX10_plainOf_4 : decode cX10_plainOf 4 = .ok (.aload_n 0, 1) := by decide +kernel
theorem dX10_plainOf_5 : decode cX10_plainOf 5 = .ok (.getfield 129, 3) := by decide +kernel
theorem dX10_plainOf_8 : decode cX10_plainOf 8 = .ok (.invokespecial 37, 3) := by decide +kernel
theorem dX10_plainOf_11 : decode cX10_plainOf 11 = .ok (.astore_n 1, 1) := by decide +kernel
theorem dX10_plainOf_12 : decode cX10_plainOf 12 = .ok (.aload_n 1, 1) := by decide +kernel
theorem dX10_plainOf_13 : decode cX10_plainOf 13 = .ok (.aload_n 0, 1) := by decide +kernel
theorem dX10_plainOf_14 : decode cX10_plainOf 14 = .ok (.invokevirtual 140, 3) := by decide +kernel
theorem dX10_plainOf_17 : decode cX10_plainOf 17 = .ok (.aload_n 1, 1) := by decide +kernel
theorem dX10_plainOf_18 : decode cX10_plainOf 18 = .ok (.areturn, 1) := by decide +kernel
set_option maxRecDepth 20000 in
theorem ggX10_plainLong_X10_isTrack : GoodIn wsX10_plainLong wsX10_isTrack := goodIn_r _ [8, 2, 9, 10, 11, 12, 13, 14, 15, 16, 7, 17, 252, 253, 254, 255, 256, 257, 258, 259, 271, 272, 273] (by decide +kernel) (by decide +kernel)
set_option maxRecDepth 20000 in
theorem gX10_plainLong_X10_isTrack : GoodIn wsX10_plainLong (wsV RX10 44 RX10 yX10_isTrack wsX10_isTrack) := goodIn_app (goodIn_of _ (by decide +kernel)) ggX10_plainLong_X10_isTrack
set_option maxRecDepth 20000 in
theorem ggX10_plainLong_Jx4a65c_get_915e3 : GoodIn wsX10_plainLong wsJx4a65c_get_915e3 := goodIn_r _ [21, 14, 22, 23, 24, 25, 26, 27, 28, 29, 30, 31, 32, 12, 33, 34, 271, 272, 273] (by decide +kernel) (by decide +kernel)
set_option maxRecDepth 20000 in
theorem gX10_plainLong_Jx4a65c_get_915e3 : GoodIn wsX10_plainLong (wsV RX10 48 RJx4a65c yJx4a65c_get_915e3 wsJx4a65c_get_915e3) := goodIn_app (goodIn_of _ (by decide +kernel)) ggX10_plainLong_Jx4a65c_get_915e3
set_option maxRecDepth 20000 in
theorem ggX10_plainLong_X10_plainOf : GoodIn wsX10_plainLong wsX10_plainOf := goodIn_r _ [37, 38, 39, 40, 41, 42, 43, 44, 45, 46, 47, 48, 49, 50, 51, 52, 53, 54, 55, 56, 12, 57, 58, 59, 60, 61, 62, 34, 63, 64, 65, 66, 67, 68, 69, 70, 71, 72, 73, 74, 75, 76, 77, 78, 79, 80, 81, 82, 83, 84, 85, 86, 87, 88, 89, 90, 91, 92, 93, 94, 95, 96, 97, 98, 99, 100, 101, 102, 103, 14, 104, 105, 106, 107, 108, 109, 110, 111, 112, 113, 114, 115, 116, 117, 118, 119, 120, 121, 122, 123, 124, 125, 126, 127, 128, 129, 130, 131, 132, 133, 134, 135, 136, 137, 138, 139, 140, 141, 142, 143, 144, 10, 11, 13, 145, 19, 20, 21, 22, 23, 24, 25, 26, 27, 28, 29, 30, 31, 32, 33, 146, 147, 148, 149, 150, 151, 152, 153, 154, 155, 156, 157, 158, 159, 160, 161, 162, 163, 164, 165, 166, 167, 168, 169, 170, 171, 16, 7, 17, 172, 173, 174, 175, 176, 177, 178, 179, 180, 181, 182, 183, 184, 185, 186, 187, 188, 189, 190, 191, 192, 193, 194, 195, 196, 197, 198, 199, 200, 201, 202, 203, 204, 205, 206, 207, 208, 209, 210, 211, 212, 213, 214, 215, 216, 217, 218, 219, 220, 221, 222, 223, 224, 225, 226, 227, 228, 229, 230, 231, 232, 233, 234, 235, 236, 237, 238, 239, 240, 241, 242, 243, 244, 245, 246, 247, 260, 261, 262, 263, 264, 265, 266, 267, 268, 269, 270, 271, 272, 273, 274, 275, 276, 277, 278, 279, 280, 281, 282, 283, 284, 285, 286, 287] (by decide +kernel) (by decide +kernel)
set_option maxRecDepth 20000 in
theorem gX10_plainLong_X10_plainOf : GoodIn wsX10_plainLong (va_wsS RX10 232 yX10_plainOf wsX10_plainOf) := goodIn_app (goodIn_of _ (by decide +kernel)) ggX10_plainLong_X10_plainOf
set_option maxRecDepth 20000 in
theorem ggX10_plainLong_X10_refuse : GoodIn wsX10_plainLong wsX10_refuse := goodIn_r _ [251, 1, 252, 253, 254, 255, 256, 257, 258, 259] (by decide +kernel) (by decide +kernel)
set_option maxRecDepth 20000 in
theorem gX10_plainLong_X10_refuse : GoodIn wsX10_plainLong (wsV RX10 31 RX10 yX10_refuse wsX10_refuse) := goodIn_app (goodIn_of _ (by decide +kernel)) ggX10_plainLong_X10_refuse
theorem dX10_plainLong_0 : decode cX10_plainLong 0 = .ok (.aload_n 0, 1) := by decide +kernel
theorem dX10_plainLong_1 : decode cX10_plainLong 1 = .ok (.iconst 0, 1) := by decide +kernel
theorem dX10_plainLong_2 : decode cX10_plainLong 2 = .ok (.putfield 20, 3) := by decide +kernel
theorem dX10_plainLong_5 : decode cX10_plainLong 5 = .ok (.aload_n 0, 1) := by decide +kernel
theorem dX10_plainLong_6 : decode cX10_plainLong 6 = .ok (.iload_n 1, 1) := by decide +kernel
theorem dX10_plainLong_7 : decode cX10_plainLong 7 = .ok (.invokevirtual 44, 3) := by decide +kernel
theorem dX10_plainLong_10 : decode cX10_plainLong 10 = .ok (.ifCond .eq 23, 3) := by decide +kernel
theorem dX10_plainLong_13 : decode cX10_plainLong 13 = .ok (.aload_n 0, 1) := by decide +kernel
theorem dX10_plainLong_14 : decode cX10_plainLong 14 = .ok (.getfield 10, 3) := by decide +kernel
theorem dX10_plainLong_17 : decode cX10_plainLong 17 = .ok (.iload_n 1, 1) := by decide +kernel
theorem dX10_plainLong_18 : decode cX10_plainLong 18 = .ok (.invokevirtual 48, 3) := by decide +kernel
theorem dX10_plainLong_21 : decode cX10_plainLong 21 = .ok (.checkcast 35, 3) := by decide +kernel
theorem dX10_plainLong_24 : decode cX10_plainLong 24 = .ok (.invokestatic 232, 3) := by decide +kernel
theorem dX10_plainLong_27 : decode cX10_plainLong 27 = .ok (.getfield 52, 3) := by decide +kernel
theorem dX10_plainLong_30 : decode cX10_plainLong 30 = .ok (.goto 8, 3) := by decide +kernel
theorem dX10_plainLong_33 : decode cX10_plainLong 33 = .ok (.aload_n 0, 1) := by decide +kernel
theorem dX10_plainLong_34 : decode cX10_plainLong 34 = .ok (.iconst 1, 1) := by decide +kernel
theorem dX10_plainLong_35 : decode cX10_plainLong 35 = .ok (.invokevirtual 31, 3) := by decide +kernel
theorem dX10_plainLong_38 : decode cX10_plainLong 38 = .ok (.ireturn, 1) := by decide +kernel
set_option maxRecDepth 20000 in
theorem ggX10_loseNow_X10_plainOf : GoodIn wsX10_loseNow wsX10_plainOf := goodIn_r _ [4, 5, 6, 7, 8, 9, 10, 11, 12, 13, 14, 15, 16, 17, 18, 19, 20, 21, 22, 23, 24, 25, 26, 27, 28, 29, 30, 31, 32, 33, 34, 35, 36, 37, 38, 39, 40, 41, 42, 43, 44, 45, 46, 47, 48, 49, 50, 51, 52, 53, 54, 55, 56, 57, 58, 59, 60, 61, 62, 63, 64, 65, 66, 67, 68, 69, 70, 71, 72, 73, 74, 75, 76, 77, 78, 79, 80, 81, 82, 83, 84, 85, 86, 87, 88, 89, 90, 91, 92, 93, 94, 95, 96, 97, 98, 99, 100, 101, 102, 103, 104, 105, 106, 107, 108, 109, 110, 111, 112, 113, 114, 115, 116, 117, 118, 119, 120, 121, 122, 123, 124, 125, 126, 127, 128, 129, 130, 131, 132, 133, 134, 135, 136, 137, 138, 139, 140, 141, 142, 143, 144, 145, 146, 147, 148, 149, 150, 151, 152, 153, 154, 155, 156, 157, 158, 159, 160, 3, 161, 162, 163, 164, 165, 166, 167, 168, 169, 170, 171, 172, 173, 174, 175, 176, 177, 178, 179, 180, 181, 182, 183, 184, 185, 186, 187, 188, 189, 190, 191, 192, 193, 194, 195, 196, 197, 198, 199, 200, 201, 202, 203, 204, 205, 206, 207, 208, 209, 210, 211, 212, 213, 214, 215, 216, 217, 218, 219, 220, 221, 222, 223, 224, 225, 226, 227, 228, 229, 230, 231, 232, 233, 234, 235, 236, 237, 306, 307, 308, 309, 310, 311, 312, 313, 314, 315, 316, 317, 318, 319, 320, 321, 322, 323, 324, 325, 326, 327, 328, 329, 330, 331, 332, 333] (by decide +kernel) (by decide +kernel)
set_option maxRecDepth 20000 in
theorem gX10_loseNow_X10_plainOf : GoodIn wsX10_loseNow (va_wsS RX10 232 yX10_plainOf wsX10_plainOf) := goodIn_app (goodIn_of _ (by decide +kernel)) ggX10_loseNow_X10_plainOf
set_option maxRecDepth 20000 in
theorem ggX10_loseNow_X8_calm : GoodIn wsX10_loseNow wsX8_calm := goodIn_r _ [241, 242, 243, 111, 47, 17, 16, 244, 245, 246, 12, 13, 14, 113, 247, 248, 249, 250, 251, 252, 253, 254, 255, 256, 257, 258, 259, 260, 261, 262, 263, 264, 265, 266, 267, 268, 269, 270, 271, 272, 273, 274, 275, 276, 277, 278, 279, 280, 281, 282, 283, 284, 285, 286, 287, 288, 289, 290, 291, 327, 328, 329, 306, 307, 308, 309, 310, 311, 312, 313, 314, 315, 316] (by decide +kernel) (by decide +kernel)
set_option maxRecDepth 20000 in
theorem gX10_loseNow_X8_calm : GoodIn wsX10_loseNow (wsV RX10 236 RX8 yX8_calm wsX8_calm) := goodIn_app (goodIn_of _ (by decide +kernel)) ggX10_loseNow_X8_calm
set_option maxRecDepth 20000 in
theorem ggX10_loseNow_Jx4a65c_add_9ea2d : GoodIn wsX10_loseNow wsJx4a65c_add_9ea2d := goodIn_r _ [165, 166, 88, 31, 73, 167, 168, 169, 24, 170, 171, 172, 173, 174, 175, 176, 177, 178, 30, 179, 180, 67, 181, 182, 183, 184, 185, 186, 187, 188, 189, 190, 191, 192, 193, 194, 195, 196, 197, 198, 199, 200, 201, 202, 203, 204, 205, 66, 68, 206, 207, 208, 209, 317, 318, 319] (by decide +kernel) (by decide +kernel)
set_option maxRecDepth 20000 in
theorem gX10_loseNow_Jx4a65c_add_9ea2d : GoodIn wsX10_loseNow (wsV RX10 40 RJx4a65c yJx4a65c_add_9ea2d wsJx4a65c_add_9ea2d) := goodIn_app (goodIn_of _ (by decide +kernel)) ggX10_loseNow_Jx4a65c_add_9ea2d
set_option maxRecDepth 20000 in
theorem ggX10_loseNow_X8_guards : GoodIn wsX10_loseNow wsX8_guards := goodIn_r _ [296, 14, 26, 46, 52, 53, 54, 7, 55, 22, 23, 24, 27, 28, 29, 30, 31, 32, 33, 34, 35, 36, 37, 38, 39, 40, 41, 12, 13, 56, 57, 58, 59, 60, 61, 62, 63, 25, 64, 65, 66, 67, 68, 69, 70, 71, 72, 73, 74, 75, 76, 77, 78, 79, 80, 81, 82, 83, 84, 85, 86, 87, 88, 89, 90, 91, 92, 93, 94, 95, 96, 97, 98, 99, 100, 101, 102, 103, 104, 105, 106, 107, 108, 109, 110, 111, 112, 113, 114, 115, 116, 117, 118, 119, 120, 121, 122, 123, 124, 125, 126, 127, 128, 129, 130, 131, 132, 133, 134, 135, 136, 137, 138, 139, 140, 141, 142, 143, 144, 145, 146, 147, 148, 149, 150, 151, 152, 153, 154, 155, 156, 157, 158, 159, 15, 160, 3, 161, 162, 163, 164, 165, 166, 167, 168, 169, 170, 171, 172, 173, 174, 175, 176, 177, 178, 179, 180, 181, 182, 183, 184, 185, 186, 187, 188, 189, 190, 191, 192, 193, 194, 195, 196, 197, 198, 199, 200, 201, 202, 203, 204, 205, 206, 207, 208, 209, 297, 298, 299, 300, 301, 302, 303, 304, 305, 306, 307, 308, 309, 310, 311, 312, 313, 314, 315, 316, 320, 321, 322, 323, 324, 325, 326, 317, 318, 319, 327, 328, 329, 330, 331, 332, 333] (by decide +kernel) (by decide +kernel)
set_option maxRecDepth 20000 in
theorem gX10_loseNow_X8_guards : GoodIn wsX10_loseNow (wsV RX10 179 RX8 yX8_guards wsX8_guards) := goodIn_app (goodIn_of _ (by decide +kernel)) ggX10_loseNow_X8_guards
theorem dX10_loseNow_0 : decode cX10_loseNow 0 = .ok (.aload_n 0, 1) := by decide +kernel
theorem dX10_loseNow_1 : decode cX10_loseNow 1 = .ok (.invokestatic 232, 3) := by decide +kernel
theorem dX10_loseNow_4 : decode cX10_loseNow 4 = .ok (.astore_n 1, 1) := by decide +kernel
theorem dX10_loseNow_5 : decode cX10_loseNow 5 = .ok (.aload_n 1, 1) := by decide +kernel
theorem dX10_loseNow_6 : decode cX10_loseNow 6 = .ok (.getfield 52, 3) := by decide +kernel
theorem dX10_loseNow_9 : decode cX10_loseNow 9 = .ok (.ifCond .le 15, 3) := by decide +kernel
theorem dX10_loseNow_12 : decode cX10_loseNow 12 = .ok (.aload_n 1, 1) := by decide +kernel
theorem dX10_loseNow_13 : decode cX10_loseNow 13 = .ok (.getfield 111, 3) := by decide +kernel
theorem dX10_loseNow_16 : decode cX10_loseNow 16 = .ok (.aload_n 1, 1) := by decide +kernel
theorem dX10_loseNow_17 : decode cX10_loseNow 17 = .ok (.invokevirtual 236, 3) := by decide +kernel
theorem dX10_loseNow_20 : decode cX10_loseNow 20 = .ok (.invokevirtual 40, 3) := by decide +kernel
theorem dX10_loseNow_23 : decode cX10_loseNow 23 = .ok (.pop, 1) := by decide +kernel
theorem dX10_loseNow_24 : decode cX10_loseNow 24 = .ok (.aload_n 0, 1) := by decide +kernel
theorem dX10_loseNow_25 : decode cX10_loseNow 25 = .ok (.invokevirtual 179, 3) := by decide +kernel
theorem dX10_loseNow_28 : decode cX10_loseNow 28 = .ok (.aload_n 1, 1) := by decide +kernel
theorem dX10_loseNow_29 : decode cX10_loseNow 29 = .ok (.invokevirtual 179, 3) := by decide +kernel
theorem dX10_loseNow_32 : decode cX10_loseNow 32 = .ok (.iconst (-1), 1) := by decide +kernel
theorem dX10_loseNow_33 : decode cX10_loseNow 33 = .ok (.ixor, 1) := by decide +kernel
theorem dX10_loseNow_34 : decode cX10_loseNow 34 = .ok (.iand, 1) := by decide +kernel
theorem dX10_loseNow_35 : decode cX10_loseNow 35 = .ok (.ireturn, 1) := by decide +kernel
set_option maxRecDepth 20000 in
theorem ggX10_wouldLose_X10_isTrack : GoodIn wsX10_wouldLose wsX10_isTrack := goodIn_r _ [8, 2, 9, 10, 11, 12, 13, 14, 15, 16, 7, 17, 323, 324, 325, 326, 327, 328, 329, 330, 331, 332, 333] (by decide +kernel) (by decide +kernel)
set_option maxRecDepth 20000 in
theorem gX10_wouldLose_X10_isTrack : GoodIn wsX10_wouldLose (wsV RX10 44 RX10 yX10_isTrack wsX10_isTrack) := goodIn_app (goodIn_of _ (by decide +kernel)) ggX10_wouldLose_X10_isTrack
set_option maxRecDepth 20000 in
theorem ggX10_wouldLose_Jx4a65c_get_915e3 : GoodIn wsX10_wouldLose wsJx4a65c_get_915e3 := goodIn_r _ [21, 14, 22, 23, 24, 25, 26, 27, 28, 29, 30, 31, 32, 12, 33, 34, 331, 332, 333] (by decide +kernel) (by decide +kernel)
set_option maxRecDepth 20000 in
theorem gX10_wouldLose_Jx4a65c_get_915e3 : GoodIn wsX10_wouldLose (wsV RX10 48 RJx4a65c yJx4a65c_get_915e3 wsJx4a65c_get_915e3) := goodIn_app (goodIn_of _ (by decide +kernel)) ggX10_wouldLose_Jx4a65c_get_915e3
set_option maxRecDepth 20000 in
theorem ggX10_wouldLose_X10_loseNow : GoodIn wsX10_wouldLose wsX10_loseNow := goodIn_r _ [37, 38, 39, 7, 40, 41, 42, 43, 44, 45, 46, 47, 48, 49, 50, 51, 52, 53, 54, 55, 56, 57, 58, 59, 12, 60, 61, 62, 63, 64, 65, 34, 66, 67, 68, 69, 70, 71, 72, 73, 74, 75, 76, 77, 78, 79, 80, 81, 82, 83, 84, 85, 86, 87, 88, 89, 90, 91, 92, 93, 94, 95, 96, 97, 98, 99, 100, 101, 102, 103, 104, 105, 106, 14, 107, 108, 109, 110, 111, 112, 113, 114, 115, 116, 117, 118, 119, 120, 121, 122, 123, 124, 125, 126, 127, 128, 129, 130, 131, 132, 133, 134, 135, 136, 137, 138, 139, 140, 141, 142, 143, 144, 145, 146, 147, 10, 11, 13, 148, 19, 20, 21, 22, 23, 24, 25, 26, 27, 28, 29, 30, 31, 32, 33, 149, 150, 151, 152, 153, 154, 155, 156, 157, 158, 159, 160, 161, 162, 163, 164, 165, 166, 167, 168, 169, 170, 171, 172, 173, 174, 16, 17, 175, 176, 177, 178, 179, 180, 181, 182, 183, 184, 185, 186, 187, 188, 189, 190, 191, 192, 193, 194, 195, 196, 197, 198, 199, 200, 201, 202, 203, 204, 205, 206, 207, 208, 209, 210, 211, 212, 213, 214, 215, 216, 217, 218, 219, 220, 221, 222, 223, 224, 225, 226, 227, 228, 229, 230, 231, 232, 233, 234, 235, 236, 237, 238, 239, 240, 241, 242, 243, 244, 245, 246, 247, 248, 249, 250, 251, 252, 253, 254, 255, 256, 257, 258, 259, 260, 261, 262, 263, 264, 265, 266, 267, 268, 269, 270, 271, 272, 273, 274, 275, 276, 277, 278, 279, 280, 281, 282, 283, 284, 285, 286, 287, 288, 289, 290, 291, 292, 293, 294, 295, 296, 297, 298, 299, 300, 301, 302, 303, 304, 305, 306, 307, 308, 309, 310, 311, 312, 313, 314, 315, 316, 317, 318, 334, 335, 336, 337, 338, 339, 340, 341, 342, 343, 344, 331, 332, 333, 345, 346, 347, 348, 349, 350, 351, 352, 353, 354, 355, 356, 357, 358] (by decide +kernel) (by decide +kernel)
set_option maxRecDepth 20000 in
theorem gX10_wouldLose_X10_loseNow : GoodIn wsX10_wouldLose (va_wsS RX10 240 yX10_loseNow wsX10_loseNow) := goodIn_app (goodIn_of _ (by decide +kernel)) ggX10_wouldLose_X10_loseNow
set_option maxRecDepth 20000 in
theorem ggX10_wouldLose_X10_refuse : GoodIn wsX10_wouldLose wsX10_refuse := goodIn_r _ [322, 1, 323, 324, 325, 326, 327, 328, 329, 330] (by decide +kernel) (by decide +kernel)
set_option maxRecDepth 20000 in
theorem gX10_wouldLose_X10_refuse : GoodIn wsX10_wouldLose (wsV RX10 31 RX10 yX10_refuse wsX10_refuse) := goodIn_app (goodIn_of _ (by decide +kernel)) ggX10_wouldLose_X10_refuse
theorem dX10_wouldLose_0 : decode cX10_wouldLose 0 = .ok (.aload_n 0, 1) := by decide +kernel
theorem dX10_wouldLose_1 : decode cX10_wouldLose 1 = .ok (.iconst 0, 1) := by decide +kernel
theorem dX10_wouldLose_2 : decode cX10_wouldLose 2 = .ok (.putfield 20, 3) := by decide +kernel
theorem dX10_wouldLose_5 : decode cX10_wouldLose 5 = .ok (.aload_n 0, 1) := by decide +kernel
theorem dX10_wouldLose_6 : decode cX10_wouldLose 6 = .ok (.iload_n 1, 1) := by decide +kernel
theorem dX10_wouldLose_7 : decode cX10_wouldLose 7 = .ok (.invokevirtual 44, 3) := by decide +kernel
theorem dX10_wouldLose_10 : decode cX10_wouldLose 10 = .ok (.ifCond .eq 20, 3) := by decide +kernel
theorem dX10_wouldLose_13 : decode cX10_wouldLose 13 = .ok (.aload_n 0, 1) := by decide +kernel
theorem dX10_wouldLose_14 : decode cX10_wouldLose 14 = .ok (.getfield 10, 3) := by decide +kernel
theorem dX10_wouldLose_17 : decode cX10_wouldLose 17 = .ok (.iload_n 1, 1) := by decide +kernel
theorem dX10_wouldLose_18 : decode cX10_wouldLose 18 = .ok (.invokevirtual 48, 3) := by decide +kernel
theorem dX10_wouldLose_21 : decode cX10_wouldLose 21 = .ok (.checkcast 35, 3) := by decide +kernel
theorem dX10_wouldLose_24 : decode cX10_wouldLose 24 = .ok (.invokestatic 240, 3) := by decide +kernel
theorem dX10_wouldLose_27 : decode cX10_wouldLose 27 = .ok (.goto 8, 3) := by decide +kernel
theorem dX10_wouldLose_30 : decode cX10_wouldLose 30 = .ok (.aload_n 0, 1) := by decide +kernel
theorem dX10_wouldLose_31 : decode cX10_wouldLose 31 = .ok (.iconst 1, 1) := by decide +kernel
theorem dX10_wouldLose_32 : decode cX10_wouldLose 32 = .ok (.invokevirtual 31, 3) := by decide +kernel
theorem dX10_wouldLose_35 : decode cX10_wouldLose 35 = .ok (.ireturn, 1) := by decide +kernel
set_option maxRecDepth 20000 in
theorem ggX10_goodNow_X8_found : GoodIn wsX10_goodNow wsX8_found := goodIn_r _ [6, 7, 8, 9, 10, 11, 12, 13, 14, 15, 16, 17, 18, 19, 20, 21, 22, 23, 24, 25, 26, 27, 28, 29, 5, 30, 31, 32, 33, 34, 35, 36, 37, 38, 39, 40, 41, 42, 43, 44, 45, 46, 47, 48, 49, 50, 51, 52, 53, 54, 55, 56, 57, 58, 59, 60, 61, 62, 63, 64, 65, 66, 67, 68, 69, 70, 71, 72, 73, 74, 75, 76, 77, 78, 79, 80, 81, 82, 83, 84, 85, 86, 87, 88, 89, 90, 91, 92, 93, 94, 95, 96, 97, 98, 99, 100, 101, 102, 103, 104, 105, 106, 107, 108, 109, 110, 111, 112, 113, 114, 115, 116, 117, 118, 119, 120, 121, 122, 123, 124, 125, 126, 127, 128, 129, 130, 131, 132, 133, 134, 135, 136, 137, 138, 139, 140, 141, 142, 143, 144, 145, 146, 147, 148, 149, 150, 151, 152, 153, 154, 155, 156, 157, 158, 159, 160, 161, 162, 163, 164, 165, 166, 167, 168, 169, 170, 171, 172, 173, 174, 175, 176, 177, 178, 179, 180, 181, 182, 183, 184, 195, 196, 197, 188, 189, 190, 191, 192, 193, 194, 198, 199, 200, 201, 202, 203, 204, 205, 206, 207, 208, 209, 210, 211, 212, 213, 214, 215] (by decide +kernel) (by decide +kernel)
set_option maxRecDepth 20000 in
theorem gX10_goodNow_X8_found : GoodIn wsX10_goodNow (wsV RX10 150 RX8 yX8_found wsX8_found) := goodIn_app (goodIn_of _ (by decide +kernel)) ggX10_goodNow_X8_found
set_option maxRecDepth 20000 in
theorem ggX10_goodNow_Jx4a65c_iterator_32c93 : GoodIn wsX10_goodNow wsJx4a65c_iterator_32c93 := goodIn_r _ [50, 51, 52, 53, 54, 55, 56, 57, 58, 25, 26, 59, 60, 61, 62, 212, 213, 214, 215, 195, 196, 197] (by decide +kernel) (by decide +kernel)
set_option maxRecDepth 20000 in
theorem gX10_goodNow_Jx4a65c_iterator_32c93 : GoodIn wsX10_goodNow (wsV RX10 154 RJx4a65c yJx4a65c_iterator_32c93 wsJx4a65c_iterator_32c93) := goodIn_app (goodIn_of _ (by decide +kernel)) ggX10_goodNow_Jx4a65c_iterator_32c93
set_option maxRecDepth 20000 in
theorem ggX10_goodNow_Jx35411_hasNext_aae02 : GoodIn wsX10_goodNow wsJx35411_hasNext_aae02 := goodIn_r _ [66, 67, 57, 212, 213, 214, 215, 195, 196, 197] (by decide +kernel) (by decide +kernel)
set_option maxRecDepth 20000 in
theorem gX10_goodNow_Jx35411_hasNext_aae02_f158Jx35411 : GoodIn wsX10_goodNow (va_wsF RX10 158 RJx35411 ⟨"java/util/Iterator", "hasNext", "()Z"⟩ yJx35411_hasNext_aae02 wsJx35411_hasNext_aae02) := goodIn_app (goodIn_of _ (by decide +kernel)) ggX10_goodNow_Jx35411_hasNext_aae02
set_option maxRecDepth 20000 in
theorem ggX10_goodNow_Jx35411_next_0502b : GoodIn wsX10_goodNow wsJx35411_next_0502b := goodIn_r _ [71, 67, 57, 72, 59, 73, 74, 75, 53, 76, 60, 61, 62, 212, 213, 214, 215, 195, 196, 197] (by decide +kernel) (by decide +kernel)
set_option maxRecDepth 20000 in
theorem gX10_goodNow_Jx35411_next_0502b_f163Jx35411 : GoodIn wsX10_goodNow (va_wsF RX10 163 RJx35411 ⟨"java/util/Iterator", "next", "()Ljava/lang/Object;"⟩ yJx35411_next_0502b wsJx35411_next_0502b) := goodIn_app (goodIn_of _ (by decide +kernel)) ggX10_goodNow_Jx35411_next_0502b
theorem dX10_goodNow_0 : decode cX10_goodNow 0 = .ok (.iconst 0, 1) := by decide +kernel
theorem dX10_goodNow_1 : decode cX10_goodNow 1 = .ok (.istore_n 2, 1) := by decide +kernel
theorem dX10_goodNow_2 : decode cX10_goodNow 2 = .ok (.aload_n 0, 1) := by decide +kernel
theorem dX10_goodNow_3 : decode cX10_goodNow 3 = .ok (.iload_n 1, 1) := by decide +kernel
theorem dX10_goodNow_4 : decode cX10_goodNow 4 = .ok (.invokevirtual 150, 3) := by decide +kernel
theorem dX10_goodNow_7 : decode cX10_goodNow 7 = .ok (.invokevirtual 154, 3) := by decide +kernel
theorem dX10_goodNow_10 : decode cX10_goodNow 10 = .ok (.astore_n 3, 1) := by decide +kernel
theorem dX10_goodNow_11 : decode cX10_goodNow 11 = .ok (.aload_n 3, 1) := by decide +kernel
theorem dX10_goodNow_12 : decode cX10_goodNow 12 = .ok (.invokeinterface 158 1, 5) := by decide +kernel
theorem dX10_goodNow_17 : decode cX10_goodNow 17 = .ok (.ifCond .eq 33, 3) := by decide +kernel
theorem dX10_goodNow_20 : decode cX10_goodNow 20 = .ok (.aload_n 3, 1) := by decide +kernel
theorem dX10_goodNow_21 : decode cX10_goodNow 21 = .ok (.invokeinterface 163 1, 5) := by decide +kernel
theorem dX10_goodNow_26 : decode cX10_goodNow 26 = .ok (.checkcast 167, 3) := by decide +kernel
theorem dX10_goodNow_29 : decode cX10_goodNow 29 = .ok (.astore 4, 2) := by decide +kernel
theorem dX10_goodNow_31 : decode cX10_goodNow 31 = .ok (.iload_n 2, 1) := by decide +kernel
theorem dX10_goodNow_32 : decode cX10_goodNow 32 = .ok (.aload 4, 2) := by decide +kernel
theorem dX10_goodNow_34 : decode cX10_goodNow 34 = .ok (.getfield 172, 3) := by decide +kernel
theorem dX10_goodNow_37 : decode cX10_goodNow 37 = .ok (.ifCond .eq 7, 3) := by decide +kernel
theorem dX10_goodNow_40 : decode cX10_goodNow 40 = .ok (.iconst 1, 1) := by decide +kernel
theorem dX10_goodNow_41 : decode cX10_goodNow 41 = .ok (.goto 4, 3) := by decide +kernel
theorem dX10_goodNow_44 : decode cX10_goodNow 44 = .ok (.iconst 0, 1) := by decide +kernel
theorem dX10_goodNow_45 : decode cX10_goodNow 45 = .ok (.iadd, 1) := by decide +kernel
theorem dX10_goodNow_46 : decode cX10_goodNow 46 = .ok (.istore_n 2, 1) := by decide +kernel
theorem dX10_goodNow_47 : decode cX10_goodNow 47 = .ok (.goto (-36), 3) := by decide +kernel
theorem dX10_goodNow_50 : decode cX10_goodNow 50 = .ok (.iload_n 2, 1) := by decide +kernel
theorem dX10_goodNow_51 : decode cX10_goodNow 51 = .ok (.ireturn, 1) := by decide +kernel
set_option maxRecDepth 20000 in
theorem ggX10_goodBy_X10_isTrack : GoodIn wsX10_goodBy wsX10_isTrack := goodIn_r _ [8, 2, 9, 10, 11, 12, 13, 14, 15, 16, 7, 17, 205, 206, 207, 208, 209, 210, 211, 212, 213, 214, 215] (by decide +kernel) (by decide +kernel)
set_option maxRecDepth 20000 in
theorem gX10_goodBy_X10_isTrack : GoodIn wsX10_goodBy (wsV RX10 44 RX10 yX10_isTrack wsX10_isTrack) := goodIn_app (goodIn_of _ (by decide +kernel)) ggX10_goodBy_X10_isTrack
set_option maxRecDepth 20000 in
theorem ggX10_goodBy_X10_refuse : GoodIn wsX10_goodBy wsX10_refuse := goodIn_r _ [21, 1, 205, 206, 207, 208, 209, 210, 211, 212] (by decide +kernel) (by decide +kernel)
set_option maxRecDepth 20000 in
theorem gX10_goodBy_X10_refuse : GoodIn wsX10_goodBy (wsV RX10 31 RX10 yX10_refuse wsX10_refuse) := goodIn_app (goodIn_of _ (by decide +kernel)) ggX10_goodBy_X10_refuse
set_option maxRecDepth 20000 in
theorem ggX10_goodBy_X10_is : GoodIn wsX10_goodBy wsX10_is := goodIn_r _ [17] (by decide +kernel) (by decide +kernel)
set_option maxRecDepth 20000 in
theorem gX10_goodBy_X10_is : GoodIn wsX10_goodBy (va_wsS RX10 27 yX10_is wsX10_is) := goodIn_app (goodIn_of _ (by decide +kernel)) ggX10_goodBy_X10_is
set_option maxRecDepth 20000 in
theorem ggX10_goodBy_Jx4a65c_get_915e3 : GoodIn wsX10_goodBy wsJx4a65c_get_915e3 := goodIn_r _ [25, 14, 26, 27, 28, 29, 30, 31, 32, 33, 34, 35, 36, 12, 37, 38, 213, 214, 215] (by decide +kernel) (by decide +kernel)
set_option maxRecDepth 20000 in
theorem gX10_goodBy_Jx4a65c_get_915e3 : GoodIn wsX10_goodBy (wsV RX10 48 RJx4a65c yJx4a65c_get_915e3 wsJx4a65c_get_915e3) := goodIn_app (goodIn_of _ (by decide +kernel)) ggX10_goodBy_Jx4a65c_get_915e3
set_option maxRecDepth 20000 in
theorem ggX10_goodBy_X10_goodNow : GoodIn wsX10_goodBy wsX10_goodNow := goodIn_r _ [41, 42, 43, 44, 45, 46, 47, 48, 49, 12, 50, 51, 52, 53, 38, 54, 55, 56, 57, 58, 59, 60, 61, 62, 63, 64, 65, 66, 67, 68, 69, 70, 71, 72, 73, 74, 75, 76, 77, 78, 79, 80, 81, 82, 83, 84, 14, 85, 86, 87, 88, 89, 90, 91, 92, 93, 94, 95, 96, 97, 98, 99, 100, 101, 102, 103, 104, 105, 106, 107, 108, 109, 110, 111, 112, 113, 114, 115, 116, 117, 118, 119, 120, 121, 122, 123, 124, 125, 10, 11, 13, 126, 23, 24, 25, 26, 27, 28, 29, 30, 31, 32, 33, 34, 35, 36, 37, 127, 128, 129, 130, 131, 132, 133, 134, 135, 136, 137, 138, 139, 140, 141, 142, 143, 144, 145, 146, 147, 148, 149, 150, 151, 152, 153, 16, 7, 17, 154, 155, 156, 157, 158, 159, 160, 161, 162, 163, 164, 165, 166, 167, 168, 169, 170, 171, 172, 173, 174, 175, 176, 177, 178, 179, 180, 181, 182, 183, 184, 185, 186, 187, 188, 189, 190, 191, 192, 193, 194, 195, 196, 197, 198, 199, 200, 201, 202, 203, 204, 216, 217, 218, 219, 220, 221, 222, 213, 214, 215, 223, 224, 225, 226, 227, 228, 229, 230, 231, 232, 233, 234, 235, 236, 237, 238, 239, 240] (by decide +kernel) (by decide +kernel)
set_option maxRecDepth 20000 in
theorem gX10_goodBy_X10_goodNow : GoodIn wsX10_goodBy (va_wsS RX10 244 yX10_goodNow wsX10_goodNow) := goodIn_app (goodIn_of _ (by decide +kernel)) ggX10_goodBy_X10_goodNow
theorem dX10_goodBy_0 : decode cX10_goodBy 0 = .ok (.aload_n 0, 1) := by decide +kernel
theorem dX10_goodBy_1 : decode cX10_goodBy 1 = .ok (.iconst 0, 1) := by decide +kernel
theorem dX10_goodBy_2 : decode cX10_goodBy 2 = .ok (.putfield 20, 3) := by decide +kernel
theorem dX10_goodBy_5 : decode cX10_goodBy 5 = .ok (.aload_n 0, 1) := by decide +kernel
theorem dX10_goodBy_6 : decode cX10_goodBy 6 = .ok (.iload_n 1, 1) := by decide +kernel
theorem dX10_goodBy_7 : decode cX10_goodBy 7 = .ok (.invokevirtual 44, 3) := by decide +kernel
theorem dX10_goodBy_10 : decode cX10_goodBy 10 = .ok (.ifCond .ne 9, 3) := by decide +kernel
theorem dX10_goodBy_13 : decode cX10_goodBy 13 = .ok (.aload_n 0, 1) := by decide +kernel
theorem dX10_goodBy_14 : decode cX10_goodBy 14 = .ok (.iconst 1, 1) := by decide +kernel
theorem dX10_goodBy_15 : decode cX10_goodBy 15 = .ok (.invokevirtual 31, 3) := by decide +kernel
theorem dX10_goodBy_18 : decode cX10_goodBy 18 = .ok (.ireturn, 1) := by decide +kernel
theorem dX10_goodBy_19 : decode cX10_goodBy 19 = .ok (.iload_n 2, 1) := by decide +kernel
theorem dX10_goodBy_20 : decode cX10_goodBy 20 = .ok (.iconst 0, 1) := by decide +kernel
theorem dX10_goodBy_21 : decode cX10_goodBy 21 = .ok (.iconst 2, 1) := by decide +kernel
theorem dX10_goodBy_22 : decode cX10_goodBy 22 = .ok (.invokestatic 27, 3) := by decide +kernel
theorem dX10_goodBy_25 : decode cX10_goodBy 25 = .ok (.ifCond .eq 21, 3) := by decide +kernel
theorem dX10_goodBy_28 : decode cX10_goodBy 28 = .ok (.aload_n 0, 1) := by decide +kernel
theorem dX10_goodBy_29 : decode cX10_goodBy 29 = .ok (.getfield 10, 3) := by decide +kernel
theorem dX10_goodBy_32 : decode cX10_goodBy 32 = .ok (.iload_n 1, 1) := by decide +kernel
theorem dX10_goodBy_33 : decode cX10_goodBy 33 = .ok (.invokevirtual 48, 3) := by decide +kernel
theorem dX10_goodBy_36 : decode cX10_goodBy 36 = .ok (.checkcast 35, 3) := by decide +kernel
theorem dX10_goodBy_39 : decode cX10_goodBy 39 = .ok (.iload_n 2, 1) := by decide +kernel
theorem dX10_goodBy_40 : decode cX10_goodBy 40 = .ok (.invokestatic 244, 3) := by decide +kernel
theorem dX10_goodBy_43 : decode cX10_goodBy 43 = .ok (.goto 8, 3) := by decide +kernel
theorem dX10_goodBy_46 : decode cX10_goodBy 46 = .ok (.aload_n 0, 1) := by decide +kernel
theorem dX10_goodBy_47 : decode cX10_goodBy 47 = .ok (.iconst 2, 1) := by decide +kernel
theorem dX10_goodBy_48 : decode cX10_goodBy 48 = .ok (.invokevirtual 31, 3) := by decide +kernel
theorem dX10_goodBy_51 : decode cX10_goodBy 51 = .ok (.ireturn, 1) := by decide +kernel
theorem dX10_add_0 : decode cX10_add 0 = .ok (.aload_n 0, 1) := by decide +kernel
theorem dX10_add_1 : decode cX10_add 1 = .ok (.aload_n 0, 1) := by decide +kernel
theorem dX10_add_2 : decode cX10_add 2 = .ok (.getfield 247, 3) := by decide +kernel
theorem dX10_add_5 : decode cX10_add 5 = .ok (.ldc2_w 250, 3) := by decide +kernel
theorem dX10_add_8 : decode cX10_add 8 = .ok (.lmul, 1) := by decide +kernel
theorem dX10_add_9 : decode cX10_add 9 = .ok (.iload_n 1, 1) := by decide +kernel
theorem dX10_add_10 : decode cX10_add 10 = .ok (.i2l, 1) := by decide +kernel
theorem dX10_add_11 : decode cX10_add 11 = .ok (.ladd, 1) := by decide +kernel
theorem dX10_add_12 : decode cX10_add 12 = .ok (.putfield 247, 3) := by decide +kernel
theorem dX10_add_15 : decode cX10_add 15 = .ok (.return_, 1) := by decide +kernel
set_option maxRecDepth 20000 in
theorem ggX10_digest_X10_manyNow : GoodIn wsX10_digest wsX10_manyNow := goodIn_r _ [12, 4, 5, 13, 14, 15, 16, 17, 18, 19, 20, 21, 22, 23, 24, 25, 26, 27, 28, 29, 30, 31, 32, 33, 34, 35, 36, 37, 38, 39, 40, 41, 42, 43, 44, 45, 46, 47, 48, 49, 50, 51, 52, 53, 54, 55, 56, 57, 58, 59, 60, 61, 62, 63, 64, 359, 360, 361, 362, 363, 364, 365, 366, 381, 382, 383, 384, 385, 386, 387, 367, 368, 369, 370, 371, 372, 373, 374, 375, 376, 377] (by decide +kernel) (by decide +kernel)
set_option maxRecDepth 20000 in
theorem gX10_digest_X10_manyNow : GoodIn wsX10_digest (wsV RX10 229 RX10 yX10_manyNow wsX10_manyNow) := goodIn_app (goodIn_of _ (by decide +kernel)) ggX10_digest_X10_manyNow
set_option maxRecDepth 20000 in
theorem ggX10_digest_X10_add : GoodIn wsX10_digest wsX10_add := goodIn_r _ [68, 3, 69, 359, 360, 361, 362, 363, 364, 365, 366] (by decide +kernel) (by decide +kernel)
set_option maxRecDepth 20000 in
theorem gX10_digest_X10_add : GoodIn wsX10_digest (wsV RX10 254 RX10 yX10_add wsX10_add) := goodIn_app (goodIn_of _ (by decide +kernel)) ggX10_digest_X10_add
set_option maxRecDepth 20000 in
theorem ggX10_digest_Jx4a65c_iterator_32c93 : GoodIn wsX10_digest wsJx4a65c_iterator_32c93 := goodIn_r _ [23, 24, 25, 26, 27, 28, 29, 30, 31, 32, 33, 34, 35, 36, 37, 381, 382, 383, 384, 385, 386, 387] (by decide +kernel) (by decide +kernel)
set_option maxRecDepth 20000 in
theorem gX10_digest_Jx4a65c_iterator_32c93 : GoodIn wsX10_digest (wsV RX10 154 RJx4a65c yJx4a65c_iterator_32c93 wsJx4a65c_iterator_32c93) := goodIn_app (goodIn_of _ (by decide +kernel)) ggX10_digest_Jx4a65c_iterator_32c93
set_option maxRecDepth 20000 in
theorem ggX10_digest_Jx35411_hasNext_aae02 : GoodIn wsX10_digest wsJx35411_hasNext_aae02 := goodIn_r _ [41, 42, 30, 381, 382, 383, 384, 385, 386, 387] (by decide +kernel) (by decide +kernel)
set_option maxRecDepth 20000 in
theorem gX10_digest_Jx35411_hasNext_aae02_f158Jx35411 : GoodIn wsX10_digest (va_wsF RX10 158 RJx35411 ⟨"java/util/Iterator", "hasNext", "()Z"⟩ yJx35411_hasNext_aae02 wsJx35411_hasNext_aae02) := goodIn_app (goodIn_of _ (by decide +kernel)) ggX10_digest_Jx35411_hasNext_aae02
set_option maxRecDepth 20000 in
theorem ggX10_digest_Jx35411_next_0502b : GoodIn wsX10_digest wsJx35411_next_0502b := goodIn_r _ [46, 42, 30, 47, 34, 48, 49, 50, 26, 51, 35, 36, 37, 381, 382, 383, 384, 385, 386, 387] (by decide +kernel) (by decide +kernel)
set_option maxRecDepth 20000 in
theorem gX10_digest_Jx35411_next_0502b_f163Jx35411 : GoodIn wsX10_digest (va_wsF RX10 163 RJx35411 ⟨"java/util/Iterator", "next", "()Ljava/lang/Object;"⟩ yJx35411_next_0502b wsJx35411_next_0502b) := goodIn_app (goodIn_of _ (by decide +kernel)) ggX10_digest_Jx35411_next_0502b
set_option maxRecDepth 20000 in
theorem ggX10_digest_X10_ofTrackNow : GoodIn wsX10_digest wsX10_ofTrackNow := goodIn_r _ [72, 7, 73, 74, 75, 55, 76, 77, 78, 22, 79, 80, 81, 82, 83, 84, 85, 86, 87, 88, 89, 90, 91, 92, 93, 32, 33, 94, 95, 96, 97, 13, 98, 99, 100, 101, 102, 103, 104, 105, 106, 107, 108, 109, 110, 111, 64, 112, 20, 21, 23, 24, 25, 26, 27, 28, 29, 30, 31, 34, 35, 36, 37, 113, 39, 40, 41, 42, 114, 44, 45, 46, 47, 48, 49, 50, 51, 115, 116, 117, 118, 119, 120, 121, 122, 123, 124, 125, 61, 62, 63, 126, 127, 128, 129, 130, 131, 132, 133, 134, 135, 136, 137, 138, 139, 140, 141, 142, 143, 144, 145, 146, 147, 148, 149, 150, 151, 152, 153, 154, 155, 156, 157, 158, 159, 160, 161, 162, 163, 164, 165, 166, 167, 168, 169, 11, 170, 171, 172, 173, 174, 175, 176, 177, 178, 179, 180, 181, 182, 183, 184, 185, 186, 187, 188, 189, 190, 191, 192, 193, 194, 195, 196, 197, 198, 199, 200, 201, 202, 203, 204, 205, 206, 207, 208, 209, 210, 211, 212, 213, 214, 215, 216, 217, 218, 19, 38, 43, 60, 219, 220, 221, 222, 223, 224, 225, 226, 227, 228, 229, 230, 231, 232, 233, 234, 235, 236, 52, 53, 54, 56, 57, 58, 59, 367, 368, 369, 370, 371, 372, 373, 374, 375, 376, 377, 388, 389, 390, 391, 392, 393, 394, 385, 386, 387, 378, 379, 380, 381, 382, 383, 384] (by decide +kernel) (by decide +kernel)
set_option maxRecDepth 20000 in
theorem gX10_digest_X10_ofTrackNow : GoodIn wsX10_digest (va_wsS RX10 182 yX10_ofTrackNow wsX10_ofTrackNow) := goodIn_app (goodIn_of _ (by decide +kernel)) ggX10_digest_X10_ofTrackNow
set_option maxRecDepth 20000 in
theorem ggX10_digest_X10_turnNow : GoodIn wsX10_digest wsX10_turnNow := goodIn_r _ [239, 240, 120, 121, 122, 123, 124, 378, 379, 380] (by decide +kernel) (by decide +kernel)
set_option maxRecDepth 20000 in
theorem gX10_digest_X10_turnNow : GoodIn wsX10_digest (va_wsS RX10 191 yX10_turnNow wsX10_turnNow) := goodIn_app (goodIn_of _ (by decide +kernel)) ggX10_digest_X10_turnNow
set_option maxRecDepth 20000 in
theorem ggX10_digest_X10_plainOf : GoodIn wsX10_digest wsX10_plainOf := goodIn_r _ [243, 244, 245, 55, 246, 247, 248, 249, 32, 33, 13, 168, 250, 58, 251, 252, 59, 253, 77, 78, 22, 102, 233, 79, 80, 81, 82, 83, 84, 85, 86, 87, 88, 89, 90, 91, 92, 93, 254, 255, 256, 257, 234, 57, 258, 259, 260, 261, 235, 74, 75, 76, 94, 95, 96, 97, 98, 99, 100, 101, 103, 104, 105, 106, 107, 108, 109, 110, 111, 64, 112, 20, 21, 23, 24, 25, 26, 27, 28, 29, 30, 31, 34, 35, 36, 37, 113, 39, 40, 41, 42, 114, 44, 45, 46, 47, 48, 49, 50, 51, 115, 116, 117, 118, 119, 120, 121, 122, 123, 124, 125, 61, 62, 63, 126, 127, 128, 129, 130, 131, 132, 133, 134, 135, 136, 137, 138, 139, 140, 141, 142, 143, 144, 145, 146, 147, 148, 149, 150, 151, 152, 153, 154, 155, 156, 157, 158, 159, 160, 161, 162, 163, 164, 165, 166, 167, 169, 11, 170, 171, 172, 173, 174, 175, 176, 177, 178, 179, 180, 181, 182, 183, 184, 185, 186, 187, 188, 189, 190, 191, 192, 193, 194, 195, 196, 197, 198, 199, 200, 201, 202, 203, 204, 205, 206, 207, 208, 209, 210, 211, 212, 213, 214, 215, 216, 217, 218, 262, 263, 264, 265, 266, 267, 268, 269, 270, 271, 272, 273, 274, 275, 276, 277, 278, 279, 280, 281, 282, 283, 284, 285, 286, 287, 288, 289, 367, 368, 369, 370, 371, 372, 373, 374, 375, 376, 377, 385, 386, 387, 388, 389, 390, 391, 392, 393, 394, 378, 379, 380, 381, 382, 383, 384] (by decide +kernel) (by decide +kernel)
set_option maxRecDepth 20000 in
theorem gX10_digest_X10_plainOf : GoodIn wsX10_digest (va_wsS RX10 232 yX10_plainOf wsX10_plainOf) := goodIn_app (goodIn_of _ (by decide +kernel)) ggX10_digest_X10_plainOf
set_option maxRecDepth 20000 in
theorem ggX10_digest_X10_loseNow : GoodIn wsX10_digest wsX10_loseNow := goodIn_r _ [292, 241, 242, 11, 243, 244, 245, 55, 246, 247, 248, 249, 32, 33, 13, 168, 250, 58, 251, 252, 59, 253, 77, 78, 22, 102, 233, 79, 80, 81, 82, 83, 84, 85, 86, 87, 88, 89, 90, 91, 92, 93, 254, 255, 256, 257, 234, 57, 258, 259, 260, 261, 235, 74, 75, 76, 94, 95, 96, 97, 98, 99, 100, 101, 103, 104, 105, 106, 107, 108, 109, 110, 111, 64, 112, 20, 21, 23, 24, 25, 26, 27, 28, 29, 30, 31, 34, 35, 36, 37, 113, 39, 40, 41, 42, 114, 44, 45, 46, 47, 48, 49, 50, 51, 115, 116, 117, 118, 119, 120, 121, 122, 123, 124, 125, 61, 62, 63, 126, 127, 128, 129, 130, 131, 132, 133, 134, 135, 136, 137, 138, 139, 140, 141, 142, 143, 144, 145, 146, 147, 148, 149, 150, 151, 152, 153, 154, 155, 156, 157, 158, 159, 160, 161, 162, 163, 164, 165, 166, 167, 169, 170, 171, 172, 173, 174, 175, 176, 177, 178, 179, 180, 181, 182, 183, 184, 185, 186, 187, 188, 189, 190, 191, 192, 193, 194, 195, 196, 197, 198, 199, 200, 201, 202, 203, 204, 205, 206, 207, 208, 209, 210, 211, 212, 213, 214, 215, 216, 217, 218, 262, 263, 264, 265, 266, 267, 268, 269, 270, 271, 272, 273, 274, 275, 276, 277, 278, 279, 280, 281, 282, 283, 284, 285, 286, 287, 288, 289, 293, 294, 295, 296, 297, 298, 299, 300, 301, 302, 303, 304, 305, 306, 307, 308, 309, 310, 311, 312, 313, 314, 315, 316, 317, 318, 319, 320, 321, 322, 323, 324, 325, 326, 327, 328, 329, 330, 331, 332, 333, 334, 335, 336, 337, 338, 339, 340, 341, 342, 343, 344, 345, 346, 347, 229, 230, 231, 232, 236, 221, 222, 223, 224, 225, 226, 227, 228, 367, 368, 369, 370, 371, 372, 373, 374, 375, 376, 377, 385, 386, 387, 388, 389, 390, 391, 392, 393, 394, 378, 379, 380, 381, 382, 383, 384] (by decide +kernel) (by decide +kernel)
set_option maxRecDepth 20000 in
theorem gX10_digest_X10_loseNow : GoodIn wsX10_digest (va_wsS RX10 240 yX10_loseNow wsX10_loseNow) := goodIn_app (goodIn_of _ (by decide +kernel)) ggX10_digest_X10_loseNow
set_option maxRecDepth 20000 in
theorem ggX10_digest_X10_goodNow : GoodIn wsX10_digest wsX10_goodNow := goodIn_r _ [350, 7, 73, 74, 75, 55, 76, 77, 78, 22, 79, 80, 81, 82, 83, 84, 85, 86, 87, 88, 89, 90, 91, 92, 93, 32, 33, 94, 95, 96, 97, 13, 98, 99, 100, 101, 102, 103, 104, 105, 106, 107, 108, 109, 110, 111, 64, 112, 20, 21, 23, 24, 25, 26, 27, 28, 29, 30, 31, 34, 35, 36, 37, 113, 39, 40, 41, 42, 114, 44, 45, 46, 47, 48, 49, 50, 51, 115, 116, 117, 118, 119, 120, 121, 122, 123, 124, 125, 61, 62, 63, 126, 127, 128, 129, 130, 131, 132, 133, 134, 135, 136, 137, 138, 139, 140, 141, 142, 143, 144, 145, 146, 147, 148, 149, 150, 151, 152, 153, 154, 155, 156, 157, 158, 159, 160, 161, 162, 163, 164, 165, 166, 167, 168, 169, 11, 170, 171, 172, 173, 174, 175, 176, 177, 178, 179, 180, 181, 182, 183, 184, 185, 186, 187, 188, 189, 190, 191, 192, 193, 194, 195, 196, 197, 198, 199, 200, 201, 202, 203, 204, 205, 206, 207, 208, 209, 210, 211, 212, 213, 214, 215, 216, 217, 218, 19, 38, 43, 388, 389, 390, 391, 392, 393, 394, 385, 386, 387, 367, 368, 369, 370, 371, 372, 373, 374, 375, 376, 377, 378, 379, 380, 381, 382, 383, 384] (by decide +kernel) (by decide +kernel)
set_option maxRecDepth 20000 in
theorem gX10_digest_X10_goodNow : GoodIn wsX10_digest (va_wsS RX10 244 yX10_goodNow wsX10_goodNow) := goodIn_app (goodIn_of _ (by decide +kernel)) ggX10_digest_X10_goodNow
set_option maxRecDepth 20000 in
theorem ggX10_digest_X10_sectors : GoodIn wsX10_digest wsX10_sectors := goodIn_r _ [353, 354, 78, 22, 7, 355, 80, 81, 82, 83, 84, 85, 86, 87, 88, 89, 90, 91, 92, 93, 32, 33, 73, 74, 75, 55, 76, 77, 79, 94, 95, 96, 97, 13, 98, 99, 100, 101, 102, 103, 104, 105, 106, 107, 108, 109, 110, 111, 64, 112, 20, 21, 23, 24, 25, 26, 27, 28, 29, 30, 31, 34, 35, 36, 37, 113, 39, 40, 41, 42, 114, 44, 45, 46, 47, 48, 49, 50, 51, 115, 116, 117, 118, 119, 120, 121, 122, 123, 124, 125, 61, 62, 63, 126, 127, 128, 129, 130, 131, 132, 133, 134, 135, 136, 137, 138, 139, 140, 141, 142, 143, 144, 145, 146, 147, 148, 149, 150, 151, 152, 153, 154, 155, 156, 157, 158, 159, 160, 161, 162, 163, 164, 165, 166, 167, 168, 169, 11, 170, 171, 172, 173, 174, 175, 176, 177, 178, 179, 180, 181, 182, 183, 184, 185, 186, 187, 188, 189, 190, 191, 192, 193, 194, 195, 196, 197, 198, 199, 200, 201, 202, 203, 204, 205, 206, 207, 208, 209, 210, 211, 212, 213, 214, 215, 216, 217, 218, 19, 38, 43, 347, 385, 386, 387, 367, 368, 369, 370, 371, 372, 373, 374, 375, 376, 377, 388, 389, 390, 391, 392, 393, 394, 378, 379, 380, 381, 382, 383, 384] (by decide +kernel) (by decide +kernel)
set_option maxRecDepth 20000 in
theorem gX10_digest_X10_sectors : GoodIn wsX10_digest (va_wsS RX10 213 yX10_sectors wsX10_sectors) := goodIn_app (goodIn_of _ (by decide +kernel)) ggX10_digest_X10_sectors
set_option maxRecDepth 20000 in
theorem ggX10_digest_X10_ofSectorNow : GoodIn wsX10_digest wsX10_ofSectorNow := goodIn_r _ [358, 388, 389, 390, 391, 392, 393, 394] (by decide +kernel) (by decide +kernel)
set_option maxRecDepth 20000 in
theorem gX10_digest_X10_ofSectorNow : GoodIn wsX10_digest (va_wsS RX10 217 yX10_ofSectorNow wsX10_ofSectorNow) := goodIn_app (goodIn_of _ (by decide +kernel)) ggX10_digest_X10_ofSectorNow
theorem dX10_digest_0 : decode cX10_digest 0 = .ok (.aload_n 0, 1) := by decide +kernel
theorem dX10_digest_1 : decode cX10_digest 1 = .ok (.iconst 0, 1) := by decide +kernel
theorem dX10_digest_2 : decode cX10_digest 2 = .ok (.putfield 20, 3) := by decide +kernel
theorem dX10_digest_5 : decode cX10_digest 5 = .ok (.aload_n 0, 1) := by decide +kernel
theorem dX10_digest_6 : decode cX10_digest 6 = .ok (.ldc2_w 252, 3) := by decide +kernel
theorem dX10_digest_9 : decode cX10_digest 9 = .ok (.putfield 247, 3) := by decide +kernel
theorem dX10_digest_12 : decode cX10_digest 12 = .ok (.iconst 0, 1) := by decide +kernel
theorem dX10_digest_13 : decode cX10_digest 13 = .ok (.istore_n 1, 1) := by decide +kernel
theorem dX10_digest_14 : decode cX10_digest 14 = .ok (.iload_n 1, 1) := by decide +kernel
theorem dX10_digest_15 : decode cX10_digest 15 = .ok (.bipush 7, 2) := by decide +kernel
theorem dX10_digest_17 : decode cX10_digest 17 = .ok (.if_icmp .ge 18, 3) := by decide +kernel
theorem dX10_digest_20 : decode cX10_digest 20 = .ok (.aload_n 0, 1) := by decide +kernel
theorem dX10_digest_21 : decode cX10_digest 21 = .ok (.aload_n 0, 1) := by decide +kernel
theorem dX10_digest_22 : decode cX10_digest 22 = .ok (.iload_n 1, 1) := by decide +kernel
theorem dX10_digest_23 : decode cX10_digest 23 = .ok (.invokevirtual 229, 3) := by decide +kernel
theorem dX10_digest_26 : decode cX10_digest 26 = .ok (.invokevirtual 254, 3) := by decide +kernel
theorem dX10_digest_29 : decode cX10_digest 29 = .ok (.iinc 1 1, 3) := by decide +kernel
theorem dX10_digest_32 : decode cX10_digest 32 = .ok (.goto (-18), 3) := by decide +kernel
theorem dX10_digest_35 : decode cX10_digest 35 = .ok (.aload_n 0, 1) := by decide +kernel
theorem dX10_digest_36 : decode cX10_digest 36 = .ok (.getfield 10, 3) := by decide +kernel
theorem dX10_digest_39 : decode cX10_digest 39 = .ok (.invokevirtual 154, 3) := by decide +kernel
theorem dX10_digest_42 : decode cX10_digest 42 = .ok (.astore_n 1, 1) := by decide +kernel
theorem dX10_digest_43 : decode cX10_digest 43 = .ok (.aload_n 1, 1) := by decide +kernel
theorem dX10_digest_44 : decode cX10_digest 44 = .ok (.invokeinterface 158 1, 5) := by decide +kernel
theorem dX10_digest_49 : decode cX10_digest 49 = .ok (.ifCond .eq 188, 3) := by decide +kernel
theorem dX10_digest_52 : decode cX10_digest 52 = .ok (.aload_n 1, 1) := by decide +kernel
theorem dX10_digest_53 : decode cX10_digest 53 = .ok (.invokeinterface 163 1, 5) := by decide +kernel
theorem dX10_digest_58 : decode cX10_digest 58 = .ok (.checkcast 35, 3) := by decide +kernel
theorem dX10_digest_61 : decode cX10_digest 61 = .ok (.astore_n 2, 1) := by decide +kernel
theorem dX10_digest_62 : decode cX10_digest 62 = .ok (.iconst 0, 1) := by decide +kernel
theorem dX10_digest_63 : decode cX10_digest 63 = .ok (.istore_n 3, 1) := by decide +kernel
theorem dX10_digest_64 : decode cX10_digest 64 = .ok (.iload_n 3, 1) := by decide +kernel
theorem dX10_digest_65 : decode cX10_digest 65 = .ok (.bipush 12, 2) := by decide +kernel
theorem dX10_digest_67 : decode cX10_digest 67 = .ok (.if_icmp .ge 18, 3) := by decide +kernel
theorem dX10_digest_70 : decode cX10_digest 70 = .ok (.aload_n 0, 1) := by decide +kernel
theorem dX10_digest_71 : decode cX10_digest 71 = .ok (.aload_n 2, 1) := by decide +kernel
theorem dX10_digest_72 : decode cX10_digest 72 = .ok (.iload_n 3, 1) := by decide +kernel
theorem dX10_digest_73 : decode cX10_digest 73 = .ok (.invokestatic 182, 3) := by decide +kernel
theorem dX10_digest_76 : decode cX10_digest 76 = .ok (.invokevirtual 254, 3) := by decide +kernel
theorem dX10_digest_79 : decode cX10_digest 79 = .ok (.iinc 3 1, 3) := by decide +kernel
theorem dX10_digest_82 : decode cX10_digest 82 = .ok (.goto (-18), 3) := by decide +kernel
theorem dX10_digest_85 : decode cX10_digest 85 = .ok (.aload_n 2, 1) := by decide +kernel
theorem dX10_digest_86 : decode cX10_digest 86 = .ok (.getfield 111, 3) := by decide +kernel
theorem dX10_digest_89 : decode cX10_digest 89 = .ok (.invokevirtual 154, 3) := by decide +kernel
theorem dX10_digest_92 : decode cX10_digest 92 = .ok (.astore_n 3, 1) := by decide +kernel
theorem dX10_digest_93 : decode cX10_digest 93 = .ok (.aload_n 3, 1) := by decide +kernel
theorem dX10_digest_94 : decode cX10_digest 94 = .ok (.invokeinterface 158 1, 5) := by decide +kernel
theorem dX10_digest_99 : decode cX10_digest 99 = .ok (.ifCond .eq 36, 3) := by decide +kernel
theorem dX10_digest_102 : decode cX10_digest 102 = .ok (.aload_n 3, 1) := by decide +kernel
theorem dX10_digest_103 : decode cX10_digest 103 = .ok (.invokeinterface 163 1, 5) := by decide +kernel
theorem dX10_digest_108 : decode cX10_digest 108 = .ok (.checkcast 98, 3) := by decide +kernel
theorem dX10_digest_111 : decode cX10_digest 111 = .ok (.astore 4, 2) := by decide +kernel
theorem dX10_digest_113 : decode cX10_digest 113 = .ok (.aload_n 0, 1) := by decide +kernel
theorem dX10_digest_114 : decode cX10_digest 114 = .ok (.aload 4, 2) := by decide +kernel
theorem dX10_digest_116 : decode cX10_digest 116 = .ok (.iconst 1, 1) := by decide +kernel
theorem dX10_digest_117 : decode cX10_digest 117 = .ok (.invokestatic 191, 3) := by decide +kernel
theorem dX10_digest_120 : decode cX10_digest 120 = .ok (.invokevirtual 254, 3) := by decide +kernel
theorem dX10_digest_123 : decode cX10_digest 123 = .ok (.aload_n 0, 1) := by decide +kernel
theorem dX10_digest_124 : decode cX10_digest 124 = .ok (.aload 4, 2) := by decide +kernel
theorem dX10_digest_126 : decode cX10_digest 126 = .ok (.getfield 121, 3) := by decide +kernel
theorem dX10_digest_129 : decode cX10_digest 129 = .ok (.invokevirtual 254, 3) := by decide +kernel
theorem dX10_digest_132 : decode cX10_digest 132 = .ok (.goto (-39), 3) := by decide +kernel
theorem dX10_digest_135 : decode cX10_digest 135 = .ok (.aload_n 0, 1) := by decide +kernel
theorem dX10_digest_136 : decode cX10_digest 136 = .ok (.aload_n 2, 1) := by decide +kernel
theorem dX10_digest_137 : decode cX10_digest 137 = .ok (.invokestatic 232, 3) := by decide +kernel
theorem dX10_digest_140 : decode cX10_digest 140 = .ok (.getfield 52, 3) := by decide +kernel
theorem dX10_digest_143 : decode cX10_digest 143 = .ok (.invokevirtual 254, 3) := by decide +kernel
theorem dX10_digest_146 : decode cX10_digest 146 = .ok (.aload_n 0, 1) := by decide +kernel
theorem dX10_digest_147 : decode cX10_digest 147 = .ok (.aload_n 2, 1) := by decide +kernel
theorem dX10_digest_148 : decode cX10_digest 148 = .ok (.invokestatic 240, 3) := by decide +kernel
theorem dX10_digest_151 : decode cX10_digest 151 = .ok (.invokevirtual 254, 3) := by decide +kernel
theorem dX10_digest_154 : decode cX10_digest 154 = .ok (.iconst 0, 1) := by decide +kernel
theorem dX10_digest_155 : decode cX10_digest 155 = .ok (.istore_n 3, 1) := by decide +kernel
theorem dX10_digest_156 : decode cX10_digest 156 = .ok (.iload_n 3, 1) := by decide +kernel
theorem dX10_digest_157 : decode cX10_digest 157 = .ok (.iconst 3, 1) := by decide +kernel
theorem dX10_digest_158 : decode cX10_digest 158 = .ok (.if_icmp .ge 18, 3) := by decide +kernel
theorem dX10_digest_161 : decode cX10_digest 161 = .ok (.aload_n 0, 1) := by decide +kernel
theorem dX10_digest_162 : decode cX10_digest 162 = .ok (.aload_n 2, 1) := by decide +kernel
theorem dX10_digest_163 : decode cX10_digest 163 = .ok (.iload_n 3, 1) := by decide +kernel
theorem dX10_digest_164 : decode cX10_digest 164 = .ok (.invokestatic 244, 3) := by decide +kernel
theorem dX10_digest_167 : decode cX10_digest 167 = .ok (.invokevirtual 254, 3) := by decide +kernel
theorem dX10_digest_170 : decode cX10_digest 170 = .ok (.iinc 3 1, 3) := by decide +kernel
theorem dX10_digest_173 : decode cX10_digest 173 = .ok (.goto (-17), 3) := by decide +kernel
theorem dX10_digest_176 : decode cX10_digest 176 = .ok (.aload_n 2, 1) := by decide +kernel
theorem dX10_digest_177 : decode cX10_digest 177 = .ok (.invokestatic 213, 3) := by decide +kernel
theorem dX10_digest_180 : decode cX10_digest 180 = .ok (.invokevirtual 154, 3) := by decide +kernel
theorem dX10_digest_183 : decode cX10_digest 183 = .ok (.astore_n 3, 1) := by decide +kernel
theorem dX10_digest_184 : decode cX10_digest 184 = .ok (.aload_n 3, 1) := by decide +kernel
theorem dX10_digest_185 : decode cX10_digest 185 = .ok (.invokeinterface 158 1, 5) := by decide +kernel
theorem dX10_digest_190 : decode cX10_digest 190 = .ok (.ifCond .eq 44, 3) := by decide +kernel
theorem dX10_digest_193 : decode cX10_digest 193 = .ok (.aload_n 3, 1) := by decide +kernel
theorem dX10_digest_194 : decode cX10_digest 194 = .ok (.invokeinterface 163 1, 5) := by decide +kernel
theorem dX10_digest_199 : decode cX10_digest 199 = .ok (.checkcast 167, 3) := by decide +kernel
theorem dX10_digest_202 : decode cX10_digest 202 = .ok (.astore 4, 2) := by decide +kernel
theorem dX10_digest_204 : decode cX10_digest 204 = .ok (.iconst 0, 1) := by decide +kernel
theorem dX10_digest_205 : decode cX10_digest 205 = .ok (.istore 5, 2) := by decide +kernel
theorem dX10_digest_207 : decode cX10_digest 207 = .ok (.iload 5, 2) := by decide +kernel
theorem dX10_digest_209 : decode cX10_digest 209 = .ok (.bipush 9, 2) := by decide +kernel
theorem dX10_digest_211 : decode cX10_digest 211 = .ok (.if_icmp .ge 20, 3) := by decide +kernel
theorem dX10_digest_214 : decode cX10_digest 214 = .ok (.aload_n 0, 1) := by decide +kernel
theorem dX10_digest_215 : decode cX10_digest 215 = .ok (.aload 4, 2) := by decide +kernel
theorem dX10_digest_217 : decode cX10_digest 217 = .ok (.iload 5, 2) := by decide +kernel
theorem dX10_digest_219 : decode cX10_digest 219 = .ok (.invokestatic 217, 3) := by decide +kernel
theorem dX10_digest_222 : decode cX10_digest 222 = .ok (.invokevirtual 254, 3) := by decide +kernel
theorem dX10_digest_225 : decode cX10_digest 225 = .ok (.iinc 5 1, 3) := by decide +kernel
theorem dX10_digest_228 : decode cX10_digest 228 = .ok (.goto (-21), 3) := by decide +kernel
theorem dX10_digest_231 : decode cX10_digest 231 = .ok (.goto (-47), 3) := by decide +kernel
theorem dX10_digest_234 : decode cX10_digest 234 = .ok (.goto (-191), 3) := by decide +kernel
theorem dX10_digest_237 : decode cX10_digest 237 = .ok (.aload_n 0, 1) := by decide +kernel
theorem dX10_digest_238 : decode cX10_digest 238 = .ok (.getfield 247, 3) := by decide +kernel
theorem dX10_digest_241 : decode cX10_digest 241 = .ok (.lreturn, 1) := by decide +kernel
