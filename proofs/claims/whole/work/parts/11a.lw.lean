set_option maxRecDepth 20000 in
theorem ggL_track_X6_track : GoodIn wsL_track wsX6_track := goodIn_ca (goodIn_ca (goodIn_r _ [7, 8, 9, 10, 11, 12, 13, 14, 15, 16, 6, 17, 18, 19, 20, 21, 22, 23, 24, 25, 26, 27, 28, 29, 30, 31, 32, 33, 34, 35, 36, 37, 38, 39, 40, 41, 42, 43, 44, 45, 46, 47, 48, 49, 50, 51, 52, 53, 54, 55, 56, 57, 58, 59, 60, 61, 62, 63, 64, 65, 66, 67, 68, 69, 70, 71, 72, 73, 74, 75, 76, 77, 78, 79, 80, 81, 82, 83, 84, 85, 86, 87, 88, 89, 90, 91, 92, 93, 94, 95, 96, 97, 98, 99, 100, 101, 102, 103, 104, 105, 106, 107, 108, 109, 110, 111, 112, 113, 114, 115, 116, 117, 118, 119, 120, 121, 122, 123, 124, 125] (by decide +kernel) (by decide +kernel)) (goodIn_sub (fun _ h => List.mem_cons_of_mem _ (List.mem_append_left _ (List.mem_append_right _ h))) (by decide +kernel))) (goodIn_sub (fun _ h => List.mem_cons_of_mem _ (List.mem_append_right _ h)) (by decide +kernel))
set_option maxRecDepth 20000 in
theorem gL_track_X6_track : GoodIn wsL_track (wsV RL 7 RX6 yX6_track wsX6_track) := goodIn_app (goodIn_of _ (by decide +kernel)) ggL_track_X6_track
theorem dL_track_0 : decode cL_track 0 = .ok (.aload_n 2, 1) := by decide +kernel
theorem dL_track_1 : decode cL_track 1 = .ok (.iconst 0, 1) := by decide +kernel
theorem dL_track_2 : decode cL_track 2 = .ok (.aload_n 0, 1) := by decide +kernel
theorem dL_track_3 : decode cL_track 3 = .ok (.iload_n 1, 1) := by decide +kernel
theorem dL_track_4 : decode cL_track 4 = .ok (.invokevirtual 7, 3) := by decide +kernel
theorem dL_track_7 : decode cL_track 7 = .ok (.i2l, 1) := by decide +kernel
theorem dL_track_8 : decode cL_track 8 = .ok (.lastore, 1) := by decide +kernel
theorem dL_track_9 : decode cL_track 9 = .ok (.goto 9, 3) := by decide +kernel
theorem dL_track_12 : decode cL_track 12 = .ok (.astore_n 3, 1) := by decide +kernel
theorem dL_track_13 : decode cL_track 13 = .ok (.iconst 1, 1) := by decide +kernel
theorem dL_track_14 : decode cL_track 14 = .ok (.ireturn, 1) := by decide +kernel
theorem dL_track_15 : decode cL_track 15 = .ok (.astore_n 3, 1) := by decide +kernel
theorem dL_track_16 : decode cL_track 16 = .ok (.iconst 2, 1) := by decide +kernel
theorem dL_track_17 : decode cL_track 17 = .ok (.ireturn, 1) := by decide +kernel
theorem dL_track_18 : decode cL_track 18 = .ok (.iconst 0, 1) := by decide +kernel
theorem dL_track_19 : decode cL_track 19 = .ok (.ireturn, 1) := by decide +kernel
set_option maxRecDepth 20000 in
theorem ggL_speed_X6_speed : GoodIn wsL_speed wsX6_speed := goodIn_ca (goodIn_r _ [6, 7, 8, 9, 10, 11, 12, 13, 14, 15, 16] (by decide +kernel) (by decide +kernel)) (goodIn_sub (fun _ h => List.mem_cons_of_mem _ (List.mem_append_right _ h)) (by decide +kernel))
set_option maxRecDepth 20000 in
theorem gL_speed_X6_speed : GoodIn wsL_speed (wsV RL 17 RX6 yX6_speed wsX6_speed) := goodIn_app (goodIn_of _ (by decide +kernel)) ggL_speed_X6_speed
theorem dL_speed_0 : decode cL_speed 0 = .ok (.aload_n 2, 1) := by decide +kernel
theorem dL_speed_1 : decode cL_speed 1 = .ok (.iconst 0, 1) := by decide +kernel
theorem dL_speed_2 : decode cL_speed 2 = .ok (.aload_n 0, 1) := by decide +kernel
theorem dL_speed_3 : decode cL_speed 3 = .ok (.iload_n 1, 1) := by decide +kernel
theorem dL_speed_4 : decode cL_speed 4 = .ok (.invokevirtual 17, 3) := by decide +kernel
theorem dL_speed_7 : decode cL_speed 7 = .ok (.i2l, 1) := by decide +kernel
theorem dL_speed_8 : decode cL_speed 8 = .ok (.lastore, 1) := by decide +kernel
theorem dL_speed_9 : decode cL_speed 9 = .ok (.goto 6, 3) := by decide +kernel
theorem dL_speed_12 : decode cL_speed 12 = .ok (.astore_n 3, 1) := by decide +kernel
theorem dL_speed_13 : decode cL_speed 13 = .ok (.iconst 1, 1) := by decide +kernel
theorem dL_speed_14 : decode cL_speed 14 = .ok (.ireturn, 1) := by decide +kernel
theorem dL_speed_15 : decode cL_speed 15 = .ok (.iconst 0, 1) := by decide +kernel
theorem dL_speed_16 : decode cL_speed 16 = .ok (.ireturn, 1) := by decide +kernel
set_option maxRecDepth 20000 in
theorem ggL_write_X6_write : GoodIn wsL_write wsX6_write := goodIn_ca (goodIn_ca (goodIn_ca (goodIn_r _ [8, 9, 10, 11, 12, 13, 14, 15, 7, 16, 17, 18, 19, 20, 21, 22, 23, 24, 25, 26, 27, 28, 29, 30, 31, 32, 33, 34, 35, 36, 37, 38, 39, 40, 41, 42, 43, 44, 45, 46, 47, 48, 49, 50, 51, 52, 53, 54, 55, 56, 57, 58, 59, 60, 61, 62, 63, 64, 65, 66, 67, 68, 69, 70, 71, 72, 73, 74, 75, 76, 77, 78, 79, 80, 81, 82, 83, 84, 85] (by decide +kernel) (by decide +kernel)) (goodIn_sub (fun _ h => List.mem_cons_of_mem _ (List.mem_append_left _ (List.mem_append_left _ (List.mem_append_right _ h)))) (by decide +kernel))) (goodIn_sub (fun _ h => List.mem_cons_of_mem _ (List.mem_append_left _ (List.mem_append_right _ h))) (by decide +kernel))) (goodIn_sub (fun _ h => List.mem_cons_of_mem _ (List.mem_append_right _ h)) (by decide +kernel))
set_option maxRecDepth 20000 in
theorem gL_write_X6_write : GoodIn wsL_write (wsV RL 20 RX6 yX6_write wsX6_write) := goodIn_app (goodIn_of _ (by decide +kernel)) ggL_write_X6_write
theorem dL_write_0 : decode cL_write 0 = .ok (.aload_n 3, 1) := by decide +kernel
theorem dL_write_1 : decode cL_write 1 = .ok (.iconst 0, 1) := by decide +kernel
theorem dL_write_2 : decode cL_write 2 = .ok (.aload_n 0, 1) := by decide +kernel
theorem dL_write_3 : decode cL_write 3 = .ok (.iload_n 1, 1) := by decide +kernel
theorem dL_write_4 : decode cL_write 4 = .ok (.iload_n 2, 1) := by decide +kernel
theorem dL_write_5 : decode cL_write 5 = .ok (.invokevirtual 20, 3) := by decide +kernel
theorem dL_write_8 : decode cL_write 8 = .ok (.i2l, 1) := by decide +kernel
theorem dL_write_9 : decode cL_write 9 = .ok (.lastore, 1) := by decide +kernel
theorem dL_write_10 : decode cL_write 10 = .ok (.goto 15, 3) := by decide +kernel
theorem dL_write_13 : decode cL_write 13 = .ok (.astore 4, 2) := by decide +kernel
theorem dL_write_15 : decode cL_write 15 = .ok (.iconst 1, 1) := by decide +kernel
theorem dL_write_16 : decode cL_write 16 = .ok (.ireturn, 1) := by decide +kernel
theorem dL_write_17 : decode cL_write 17 = .ok (.astore 4, 2) := by decide +kernel
theorem dL_write_19 : decode cL_write 19 = .ok (.iconst 2, 1) := by decide +kernel
theorem dL_write_20 : decode cL_write 20 = .ok (.ireturn, 1) := by decide +kernel
theorem dL_write_21 : decode cL_write 21 = .ok (.astore 4, 2) := by decide +kernel
theorem dL_write_23 : decode cL_write 23 = .ok (.iconst 3, 1) := by decide +kernel
theorem dL_write_24 : decode cL_write 24 = .ok (.ireturn, 1) := by decide +kernel
theorem dL_write_25 : decode cL_write 25 = .ok (.iconst 0, 1) := by decide +kernel
theorem dL_write_26 : decode cL_write 26 = .ok (.ireturn, 1) := by decide +kernel
set_option maxRecDepth 20000 in
theorem ggL_mark_X6_mark : GoodIn wsL_mark wsX6_mark := goodIn_ca (goodIn_ca (goodIn_r _ [7, 8, 9, 10, 11, 12, 13, 6, 14, 15, 16, 17, 18, 19, 20, 21, 22, 23, 24, 25, 26, 27, 28, 29, 30, 31, 32, 33, 34, 35, 36, 37, 38, 39, 40, 41, 42, 43, 44, 45, 46, 47, 48, 49, 50, 51, 52, 53, 54, 55, 56, 57, 58, 59, 60, 61, 62, 63, 64, 65, 66, 67, 68, 69, 70] (by decide +kernel) (by decide +kernel)) (goodIn_sub (fun _ h => List.mem_cons_of_mem _ (List.mem_append_left _ (List.mem_append_right _ h))) (by decide +kernel))) (goodIn_sub (fun _ h => List.mem_cons_of_mem _ (List.mem_append_right _ h)) (by decide +kernel))
set_option maxRecDepth 20000 in
theorem gL_mark_X6_mark : GoodIn wsL_mark (wsV RL 26 RX6 yX6_mark wsX6_mark) := goodIn_app (goodIn_of _ (by decide +kernel)) ggL_mark_X6_mark
theorem dL_mark_0 : decode cL_mark 0 = .ok (.aload_n 2, 1) := by decide +kernel
theorem dL_mark_1 : decode cL_mark 1 = .ok (.iconst 0, 1) := by decide +kernel
theorem dL_mark_2 : decode cL_mark 2 = .ok (.aload_n 0, 1) := by decide +kernel
theorem dL_mark_3 : decode cL_mark 3 = .ok (.iload_n 1, 1) := by decide +kernel
theorem dL_mark_4 : decode cL_mark 4 = .ok (.invokevirtual 26, 3) := by decide +kernel
theorem dL_mark_7 : decode cL_mark 7 = .ok (.i2l, 1) := by decide +kernel
theorem dL_mark_8 : decode cL_mark 8 = .ok (.lastore, 1) := by decide +kernel
theorem dL_mark_9 : decode cL_mark 9 = .ok (.goto 9, 3) := by decide +kernel
theorem dL_mark_12 : decode cL_mark 12 = .ok (.astore_n 3, 1) := by decide +kernel
theorem dL_mark_13 : decode cL_mark 13 = .ok (.iconst 1, 1) := by decide +kernel
theorem dL_mark_14 : decode cL_mark 14 = .ok (.ireturn, 1) := by decide +kernel
theorem dL_mark_15 : decode cL_mark 15 = .ok (.astore_n 3, 1) := by decide +kernel
theorem dL_mark_16 : decode cL_mark 16 = .ok (.iconst 2, 1) := by decide +kernel
theorem dL_mark_17 : decode cL_mark 17 = .ok (.ireturn, 1) := by decide +kernel
theorem dL_mark_18 : decode cL_mark 18 = .ok (.iconst 0, 1) := by decide +kernel
theorem dL_mark_19 : decode cL_mark 19 = .ok (.ireturn, 1) := by decide +kernel
set_option maxRecDepth 20000 in
theorem ggL_sector_X6_sector : GoodIn wsL_sector wsX6_sector := goodIn_ca (goodIn_ca (goodIn_ca (goodIn_r _ [8, 9, 10, 11, 12, 13, 14, 15, 16, 17, 7, 18, 19, 20, 21, 22, 23, 24, 25, 26, 27, 28, 29, 30, 31, 32, 33, 34, 35, 36, 37, 38, 39, 40, 41, 42, 43, 44, 45, 46, 47, 48, 49, 50, 51, 52, 53, 54, 55, 56, 57, 58, 59, 60, 61, 62, 63, 64, 65, 66, 67, 68, 69, 70, 71, 72, 73, 74, 75, 76, 77, 78, 79, 80, 81, 82, 83, 84, 85, 86, 87, 88, 89, 90, 91, 92, 93, 94, 95, 96] (by decide +kernel) (by decide +kernel)) (goodIn_sub (fun _ h => List.mem_cons_of_mem _ (List.mem_append_left _ (List.mem_append_left _ (List.mem_append_right _ h)))) (by decide +kernel))) (goodIn_sub (fun _ h => List.mem_cons_of_mem _ (List.mem_append_left _ (List.mem_append_right _ h))) (by decide +kernel))) (goodIn_sub (fun _ h => List.mem_cons_of_mem _ (List.mem_append_right _ h)) (by decide +kernel))
set_option maxRecDepth 20000 in
theorem gL_sector_X6_sector : GoodIn wsL_sector (wsV RL 29 RX6 yX6_sector wsX6_sector) := goodIn_app (goodIn_of _ (by decide +kernel)) ggL_sector_X6_sector
theorem dL_sector_0 : decode cL_sector 0 = .ok (.aload 6, 2) := by decide +kernel
theorem dL_sector_2 : decode cL_sector 2 = .ok (.iconst 0, 1) := by decide +kernel
theorem dL_sector_3 : decode cL_sector 3 = .ok (.aload_n 0, 1) := by decide +kernel
theorem dL_sector_4 : decode cL_sector 4 = .ok (.iload_n 1, 1) := by decide +kernel
theorem dL_sector_5 : decode cL_sector 5 = .ok (.iload_n 2, 1) := by decide +kernel
theorem dL_sector_6 : decode cL_sector 6 = .ok (.iload_n 3, 1) := by decide +kernel
theorem dL_sector_7 : decode cL_sector 7 = .ok (.iload 4, 2) := by decide +kernel
theorem dL_sector_9 : decode cL_sector 9 = .ok (.iload 5, 2) := by decide +kernel
theorem dL_sector_11 : decode cL_sector 11 = .ok (.invokevirtual 29, 3) := by decide +kernel
theorem dL_sector_14 : decode cL_sector 14 = .ok (.i2l, 1) := by decide +kernel
theorem dL_sector_15 : decode cL_sector 15 = .ok (.lastore, 1) := by decide +kernel
theorem dL_sector_16 : decode cL_sector 16 = .ok (.goto 15, 3) := by decide +kernel
theorem dL_sector_19 : decode cL_sector 19 = .ok (.astore 7, 2) := by decide +kernel
theorem dL_sector_21 : decode cL_sector 21 = .ok (.iconst 1, 1) := by decide +kernel
theorem dL_sector_22 : decode cL_sector 22 = .ok (.ireturn, 1) := by decide +kernel
theorem dL_sector_23 : decode cL_sector 23 = .ok (.astore 7, 2) := by decide +kernel
theorem dL_sector_25 : decode cL_sector 25 = .ok (.iconst 2, 1) := by decide +kernel
theorem dL_sector_26 : decode cL_sector 26 = .ok (.ireturn, 1) := by decide +kernel
theorem dL_sector_27 : decode cL_sector 27 = .ok (.astore 7, 2) := by decide +kernel
theorem dL_sector_29 : decode cL_sector 29 = .ok (.iconst 3, 1) := by decide +kernel
theorem dL_sector_30 : decode cL_sector 30 = .ok (.ireturn, 1) := by decide +kernel
theorem dL_sector_31 : decode cL_sector 31 = .ok (.iconst 0, 1) := by decide +kernel
theorem dL_sector_32 : decode cL_sector 32 = .ok (.ireturn, 1) := by decide +kernel
set_option maxRecDepth 20000 in
theorem ggL_weak_X6_weak : GoodIn wsL_weak wsX6_weak := goodIn_ca (goodIn_r _ [6, 7, 8, 9, 10, 5, 11, 12, 13, 14, 15, 16, 17, 18, 19, 20, 21, 22, 23, 24, 25, 26, 27, 28, 29, 30, 31, 32, 33, 34, 35, 36, 37, 38, 39, 40, 41, 42, 43, 44, 45, 46, 47, 48, 49, 50, 51, 52, 53, 54, 55, 56, 57, 58] (by decide +kernel) (by decide +kernel)) (goodIn_sub (fun _ h => List.mem_cons_of_mem _ (List.mem_append_right _ h)) (by decide +kernel))
set_option maxRecDepth 20000 in
theorem gL_weak_X6_weak : GoodIn wsL_weak (wsV RL 33 RX6 yX6_weak wsX6_weak) := goodIn_app (goodIn_of _ (by decide +kernel)) ggL_weak_X6_weak
theorem dL_weak_0 : decode cL_weak 0 = .ok (.aload 4, 2) := by decide +kernel
theorem dL_weak_2 : decode cL_weak 2 = .ok (.iconst 0, 1) := by decide +kernel
theorem dL_weak_3 : decode cL_weak 3 = .ok (.aload_n 0, 1) := by decide +kernel
theorem dL_weak_4 : decode cL_weak 4 = .ok (.iload_n 1, 1) := by decide +kernel
theorem dL_weak_5 : decode cL_weak 5 = .ok (.iload_n 2, 1) := by decide +kernel
theorem dL_weak_6 : decode cL_weak 6 = .ok (.iload_n 3, 1) := by decide +kernel
theorem dL_weak_7 : decode cL_weak 7 = .ok (.invokevirtual 33, 3) := by decide +kernel
theorem dL_weak_10 : decode cL_weak 10 = .ok (.ifCond .eq 7, 3) := by decide +kernel
theorem dL_weak_13 : decode cL_weak 13 = .ok (.lconst 1, 1) := by decide +kernel
theorem dL_weak_14 : decode cL_weak 14 = .ok (.goto 4, 3) := by decide +kernel
theorem dL_weak_17 : decode cL_weak 17 = .ok (.lconst 0, 1) := by decide +kernel
theorem dL_weak_18 : decode cL_weak 18 = .ok (.lastore, 1) := by decide +kernel
theorem dL_weak_19 : decode cL_weak 19 = .ok (.goto 7, 3) := by decide +kernel
theorem dL_weak_22 : decode cL_weak 22 = .ok (.astore 5, 2) := by decide +kernel
theorem dL_weak_24 : decode cL_weak 24 = .ok (.iconst 1, 1) := by decide +kernel
theorem dL_weak_25 : decode cL_weak 25 = .ok (.ireturn, 1) := by decide +kernel
theorem dL_weak_26 : decode cL_weak 26 = .ok (.iconst 0, 1) := by decide +kernel
theorem dL_weak_27 : decode cL_weak 27 = .ok (.ireturn, 1) := by decide +kernel
set_option maxRecDepth 20000 in
theorem ggL_dirt_X6_dirt : GoodIn wsL_dirt wsX6_dirt := goodIn_ca (goodIn_ca (goodIn_r _ [7, 8, 9, 10, 11, 12, 13, 6, 14, 15, 16, 17, 18, 19, 20, 21, 22, 23, 24, 25, 26, 27, 28, 29, 30, 31, 32, 33, 34, 35, 36, 37, 38, 39, 40, 41, 42, 43, 44, 45, 46, 47, 48, 49, 50, 51, 52, 53, 54, 55, 56, 57, 58, 59, 60, 61, 62, 63, 64, 65, 66, 67, 68, 69, 70, 71, 72, 73, 74, 75, 76, 77] (by decide +kernel) (by decide +kernel)) (goodIn_sub (fun _ h => List.mem_cons_of_mem _ (List.mem_append_left _ (List.mem_append_right _ h))) (by decide +kernel))) (goodIn_sub (fun _ h => List.mem_cons_of_mem _ (List.mem_append_right _ h)) (by decide +kernel))
set_option maxRecDepth 20000 in
theorem gL_dirt_X6_dirt : GoodIn wsL_dirt (wsV RL 37 RX6 yX6_dirt wsX6_dirt) := goodIn_app (goodIn_of _ (by decide +kernel)) ggL_dirt_X6_dirt
theorem dL_dirt_0 : decode cL_dirt 0 = .ok (.aload 4, 2) := by decide +kernel
theorem dL_dirt_2 : decode cL_dirt 2 = .ok (.iconst 0, 1) := by decide +kernel
theorem dL_dirt_3 : decode cL_dirt 3 = .ok (.aload_n 0, 1) := by decide +kernel
theorem dL_dirt_4 : decode cL_dirt 4 = .ok (.iload_n 1, 1) := by decide +kernel
theorem dL_dirt_5 : decode cL_dirt 5 = .ok (.iload_n 2, 1) := by decide +kernel
theorem dL_dirt_6 : decode cL_dirt 6 = .ok (.iload_n 3, 1) := by decide +kernel
theorem dL_dirt_7 : decode cL_dirt 7 = .ok (.invokevirtual 37, 3) := by decide +kernel
theorem dL_dirt_10 : decode cL_dirt 10 = .ok (.i2l, 1) := by decide +kernel
theorem dL_dirt_11 : decode cL_dirt 11 = .ok (.lastore, 1) := by decide +kernel
theorem dL_dirt_12 : decode cL_dirt 12 = .ok (.goto 11, 3) := by decide +kernel
theorem dL_dirt_15 : decode cL_dirt 15 = .ok (.astore 5, 2) := by decide +kernel
theorem dL_dirt_17 : decode cL_dirt 17 = .ok (.iconst 1, 1) := by decide +kernel
theorem dL_dirt_18 : decode cL_dirt 18 = .ok (.ireturn, 1) := by decide +kernel
theorem dL_dirt_19 : decode cL_dirt 19 = .ok (.astore 5, 2) := by decide +kernel
theorem dL_dirt_21 : decode cL_dirt 21 = .ok (.iconst 2, 1) := by decide +kernel
theorem dL_dirt_22 : decode cL_dirt 22 = .ok (.ireturn, 1) := by decide +kernel
theorem dL_dirt_23 : decode cL_dirt 23 = .ok (.iconst 0, 1) := by decide +kernel
theorem dL_dirt_24 : decode cL_dirt 24 = .ok (.ireturn, 1) := by decide +kernel
set_option maxRecDepth 20000 in
theorem ggL_clean_X6_clean : GoodIn wsL_clean wsX6_clean := goodIn_ca (goodIn_r _ [6, 7, 8, 9, 10, 5, 11, 12, 13, 14, 15, 16, 17, 18, 19, 20, 21, 22, 23, 24, 25, 26, 27, 28, 29, 30, 31, 32, 33, 34, 35, 36, 37, 38, 39, 40, 41, 42, 43, 44, 45, 46, 47, 48, 49, 50, 51, 52, 53, 54, 55, 56, 57, 58, 59, 60, 61, 62, 63, 64, 65, 66] (by decide +kernel) (by decide +kernel)) (goodIn_sub (fun _ h => List.mem_cons_of_mem _ (List.mem_append_right _ h)) (by decide +kernel))
set_option maxRecDepth 20000 in
theorem gL_clean_X6_clean : GoodIn wsL_clean (wsV RL 41 RX6 yX6_clean wsX6_clean) := goodIn_app (goodIn_of _ (by decide +kernel)) ggL_clean_X6_clean
theorem dL_clean_0 : decode cL_clean 0 = .ok (.aload_n 2, 1) := by decide +kernel
theorem dL_clean_1 : decode cL_clean 1 = .ok (.iconst 0, 1) := by decide +kernel
theorem dL_clean_2 : decode cL_clean 2 = .ok (.aload_n 0, 1) := by decide +kernel
theorem dL_clean_3 : decode cL_clean 3 = .ok (.iload_n 1, 1) := by decide +kernel
theorem dL_clean_4 : decode cL_clean 4 = .ok (.invokevirtual 41, 3) := by decide +kernel
theorem dL_clean_7 : decode cL_clean 7 = .ok (.i2l, 1) := by decide +kernel
theorem dL_clean_8 : decode cL_clean 8 = .ok (.lastore, 1) := by decide +kernel
theorem dL_clean_9 : decode cL_clean 9 = .ok (.goto 6, 3) := by decide +kernel
theorem dL_clean_12 : decode cL_clean 12 = .ok (.astore_n 3, 1) := by decide +kernel
theorem dL_clean_13 : decode cL_clean 13 = .ok (.iconst 1, 1) := by decide +kernel
theorem dL_clean_14 : decode cL_clean 14 = .ok (.ireturn, 1) := by decide +kernel
theorem dL_clean_15 : decode cL_clean 15 = .ok (.iconst 0, 1) := by decide +kernel
theorem dL_clean_16 : decode cL_clean 16 = .ok (.ireturn, 1) := by decide +kernel
set_option maxRecDepth 20000 in
theorem ggL_read_X6_read : GoodIn wsL_read wsX6_read := goodIn_ca (goodIn_ca (goodIn_r _ [7, 8, 9, 10, 11, 12, 13, 14, 15, 16, 17, 18, 6, 19, 20, 21, 22, 23, 24, 25, 26, 27, 28, 29, 30, 31, 32, 33, 34, 35, 36, 37, 38, 39, 40, 41, 42, 43, 44, 45, 46, 47, 48, 49, 50, 51, 52, 53, 54, 55, 56, 57, 58, 59, 60, 61, 62, 63, 64, 65, 66, 67, 68, 69, 70, 71, 72, 73, 74, 75, 76, 77, 78, 79, 80, 81, 82, 83, 84, 85, 86, 87, 88, 89, 90, 91, 92, 93, 94, 95, 96, 97, 98, 99, 100, 101, 102, 103, 104, 105, 106, 107, 108, 109, 110, 111, 112, 113, 114, 115, 116, 117, 118, 119, 120, 121, 122, 123, 124, 125, 126, 127, 128, 129, 130, 131, 132, 133, 134, 135, 136, 137, 138, 139, 140, 141, 142, 143, 144, 145, 146, 147, 148, 149, 150, 151, 152, 153, 154, 155, 156, 157, 158, 159, 160, 161, 162, 163, 164, 165, 166, 167, 168, 169, 170, 171, 172, 173, 174, 175, 176, 177, 178, 179, 180, 181, 182, 183, 184, 185, 186, 187, 188, 189, 190, 191, 192, 193, 194, 195, 196, 197, 198, 199, 200, 201, 202, 203, 204, 205, 206, 207, 208, 209, 210, 211, 212, 213, 214, 215, 216, 217, 218, 219, 220, 221, 222, 223, 224, 225, 226, 227, 228, 229, 230, 231, 232, 233, 234, 235, 236, 237, 238, 239, 240, 241, 242, 243, 244, 245, 246, 247, 248, 249, 250, 251, 252, 253, 254, 255] (by decide +kernel) (by decide +kernel)) (goodIn_sub (fun _ h => List.mem_cons_of_mem _ (List.mem_append_left _ (List.mem_append_right _ h))) (by decide +kernel))) (goodIn_sub (fun _ h => List.mem_cons_of_mem _ (List.mem_append_right _ h)) (by decide +kernel))
set_option maxRecDepth 20000 in
theorem gL_read_X6_read : GoodIn wsL_read (wsV RL 44 RX6 yX6_read wsX6_read) := goodIn_app (goodIn_of _ (by decide +kernel)) ggL_read_X6_read
theorem dL_read_0 : decode cL_read 0 = .ok (.aload_n 2, 1) := by decide +kernel
theorem dL_read_1 : decode cL_read 1 = .ok (.iconst 0, 1) := by decide +kernel
theorem dL_read_2 : decode cL_read 2 = .ok (.aload_n 0, 1) := by decide +kernel
theorem dL_read_3 : decode cL_read 3 = .ok (.iload_n 1, 1) := by decide +kernel
theorem dL_read_4 : decode cL_read 4 = .ok (.invokevirtual 44, 3) := by decide +kernel
theorem dL_read_7 : decode cL_read 7 = .ok (.i2l, 1) := by decide +kernel
theorem dL_read_8 : decode cL_read 8 = .ok (.lastore, 1) := by decide +kernel
theorem dL_read_9 : decode cL_read 9 = .ok (.goto 9, 3) := by decide +kernel
theorem dL_read_12 : decode cL_read 12 = .ok (.astore_n 3, 1) := by decide +kernel
theorem dL_read_13 : decode cL_read 13 = .ok (.iconst 1, 1) := by decide +kernel
theorem dL_read_14 : decode cL_read 14 = .ok (.ireturn, 1) := by decide +kernel
theorem dL_read_15 : decode cL_read 15 = .ok (.astore_n 3, 1) := by decide +kernel
theorem dL_read_16 : decode cL_read 16 = .ok (.iconst 2, 1) := by decide +kernel
theorem dL_read_17 : decode cL_read 17 = .ok (.ireturn, 1) := by decide +kernel
theorem dL_read_18 : decode cL_read 18 = .ok (.iconst 0, 1) := by decide +kernel
theorem dL_read_19 : decode cL_read 19 = .ok (.ireturn, 1) := by decide +kernel
set_option maxRecDepth 20000 in
theorem ggL_copy_X6_copy : GoodIn wsL_copy wsX6_copy := goodIn_ca (goodIn_ca (goodIn_ca (goodIn_r _ [8, 9, 10, 11, 12, 13, 14, 15, 16, 17, 18, 19, 20, 21, 22, 7, 23, 24, 25, 26, 27, 28, 29, 30, 31, 32, 33, 34, 35, 36, 37, 38, 39, 40, 41, 42, 43, 44, 45, 46, 47, 48, 49, 50, 51, 52, 53, 54, 55, 56, 57, 58, 59, 60, 61, 62, 63, 64, 65, 66, 67, 68, 69, 70, 71, 72, 73, 74, 75, 76, 77, 78, 79, 80, 81, 82, 83, 84, 85, 86, 87, 88, 89, 90, 91, 92, 93, 94, 95, 96, 97, 98, 99, 100, 101, 102, 103, 104, 105, 106, 107, 108, 109, 110, 111, 112, 113, 114, 115, 116, 117, 118, 119, 120, 121, 122, 123, 124, 125, 126, 127, 128, 129, 130, 131, 132, 133, 134, 135, 136, 137, 138, 139, 140, 141, 142, 143, 144, 145, 146, 147, 148, 149, 150, 151, 152, 153, 154, 155, 156, 157, 158, 159, 160, 161, 162, 163, 164, 165, 166, 167, 168, 169, 170, 171, 172, 173, 174, 175, 176, 177, 178, 179, 180, 181, 182, 183, 184, 185, 186, 187, 188, 189, 190, 191, 192, 193, 194, 195, 196, 197, 198, 199, 200, 201, 202, 203, 204, 205, 206, 207, 208, 209, 210, 211, 212, 213, 214, 215, 216, 217, 218, 219, 220, 221, 222, 223, 224, 225, 226, 227, 228, 229, 230, 231, 232, 233, 234, 235, 236, 237, 238, 239, 240, 241, 242, 243, 244, 245, 246, 247] (by decide +kernel) (by decide +kernel)) (goodIn_sub (fun _ h => List.mem_cons_of_mem _ (List.mem_append_left _ (List.mem_append_left _ (List.mem_append_right _ h)))) (by decide +kernel))) (goodIn_sub (fun _ h => List.mem_cons_of_mem _ (List.mem_append_left _ (List.mem_append_right _ h))) (by decide +kernel))) (goodIn_sub (fun _ h => List.mem_cons_of_mem _ (List.mem_append_right _ h)) (by decide +kernel))
set_option maxRecDepth 20000 in
theorem gL_copy_X6_copy : GoodIn wsL_copy (wsV RL 47 RX6 yX6_copy wsX6_copy) := goodIn_app (goodIn_of _ (by decide +kernel)) ggL_copy_X6_copy
theorem dL_copy_0 : decode cL_copy 0 = .ok (.aload 4, 2) := by decide +kernel
theorem dL_copy_2 : decode cL_copy 2 = .ok (.iconst 0, 1) := by decide +kernel
theorem dL_copy_3 : decode cL_copy 3 = .ok (.aload_n 0, 1) := by decide +kernel
theorem dL_copy_4 : decode cL_copy 4 = .ok (.iload_n 1, 1) := by decide +kernel
theorem dL_copy_5 : decode cL_copy 5 = .ok (.iload_n 2, 1) := by decide +kernel
theorem dL_copy_6 : decode cL_copy 6 = .ok (.iload_n 3, 1) := by decide +kernel
theorem dL_copy_7 : decode cL_copy 7 = .ok (.invokevirtual 47, 3) := by decide +kernel
theorem dL_copy_10 : decode cL_copy 10 = .ok (.i2l, 1) := by decide +kernel
theorem dL_copy_11 : decode cL_copy 11 = .ok (.lastore, 1) := by decide +kernel
theorem dL_copy_12 : decode cL_copy 12 = .ok (.goto 15, 3) := by decide +kernel
theorem dL_copy_15 : decode cL_copy 15 = .ok (.astore 5, 2) := by decide +kernel
theorem dL_copy_17 : decode cL_copy 17 = .ok (.iconst 1, 1) := by decide +kernel
theorem dL_copy_18 : decode cL_copy 18 = .ok (.ireturn, 1) := by decide +kernel
theorem dL_copy_19 : decode cL_copy 19 = .ok (.astore 5, 2) := by decide +kernel
theorem dL_copy_21 : decode cL_copy 21 = .ok (.iconst 2, 1) := by decide +kernel
theorem dL_copy_22 : decode cL_copy 22 = .ok (.ireturn, 1) := by decide +kernel
theorem dL_copy_23 : decode cL_copy 23 = .ok (.astore 5, 2) := by decide +kernel
theorem dL_copy_25 : decode cL_copy 25 = .ok (.iconst 3, 1) := by decide +kernel
theorem dL_copy_26 : decode cL_copy 26 = .ok (.ireturn, 1) := by decide +kernel
theorem dL_copy_27 : decode cL_copy 27 = .ok (.iconst 0, 1) := by decide +kernel
theorem dL_copy_28 : decode cL_copy 28 = .ok (.ireturn, 1) := by decide +kernel
set_option maxRecDepth 20000 in
theorem ggL_ofCell_X6_ofCell : GoodIn wsL_ofCell wsX6_ofCell := goodIn_ca (goodIn_ca (goodIn_r _ [7, 8, 9, 10, 11, 6, 12, 13, 14, 15, 16, 17, 18, 19, 20, 21, 22, 23, 24, 25, 26, 27, 28, 29, 30, 31, 32, 33, 34, 35, 36, 37, 38, 39, 40, 41, 42, 43, 44, 45, 46, 47, 48, 49, 50, 51, 52, 53, 54, 55, 56, 57, 58, 59, 60, 61, 62, 63, 64, 65, 66, 67, 68, 69, 70, 71, 72, 73, 74, 75, 76, 77, 78, 79] (by decide +kernel) (by decide +kernel)) (goodIn_sub (fun _ h => List.mem_cons_of_mem _ (List.mem_append_left _ (List.mem_append_right _ h))) (by decide +kernel))) (goodIn_sub (fun _ h => List.mem_cons_of_mem _ (List.mem_append_right _ h)) (by decide +kernel))
set_option maxRecDepth 20000 in
theorem gL_ofCell_X6_ofCell : GoodIn wsL_ofCell (wsV RL 51 RX6 yX6_ofCell wsX6_ofCell) := goodIn_app (goodIn_of _ (by decide +kernel)) ggL_ofCell_X6_ofCell
theorem dL_ofCell_0 : decode cL_ofCell 0 = .ok (.aload 4, 2) := by decide +kernel
theorem dL_ofCell_2 : decode cL_ofCell 2 = .ok (.iconst 0, 1) := by decide +kernel
theorem dL_ofCell_3 : decode cL_ofCell 3 = .ok (.aload_n 0, 1) := by decide +kernel
theorem dL_ofCell_4 : decode cL_ofCell 4 = .ok (.iload_n 1, 1) := by decide +kernel
theorem dL_ofCell_5 : decode cL_ofCell 5 = .ok (.iload_n 2, 1) := by decide +kernel
theorem dL_ofCell_6 : decode cL_ofCell 6 = .ok (.iload_n 3, 1) := by decide +kernel
theorem dL_ofCell_7 : decode cL_ofCell 7 = .ok (.invokevirtual 51, 3) := by decide +kernel
theorem dL_ofCell_10 : decode cL_ofCell 10 = .ok (.i2l, 1) := by decide +kernel
theorem dL_ofCell_11 : decode cL_ofCell 11 = .ok (.lastore, 1) := by decide +kernel
theorem dL_ofCell_12 : decode cL_ofCell 12 = .ok (.goto 11, 3) := by decide +kernel
theorem dL_ofCell_15 : decode cL_ofCell 15 = .ok (.astore 5, 2) := by decide +kernel
theorem dL_ofCell_17 : decode cL_ofCell 17 = .ok (.iconst 1, 1) := by decide +kernel
theorem dL_ofCell_18 : decode cL_ofCell 18 = .ok (.ireturn, 1) := by decide +kernel
theorem dL_ofCell_19 : decode cL_ofCell 19 = .ok (.astore 5, 2) := by decide +kernel
theorem dL_ofCell_21 : decode cL_ofCell 21 = .ok (.iconst 2, 1) := by decide +kernel
theorem dL_ofCell_22 : decode cL_ofCell 22 = .ok (.ireturn, 1) := by decide +kernel
theorem dL_ofCell_23 : decode cL_ofCell 23 = .ok (.iconst 0, 1) := by decide +kernel
theorem dL_ofCell_24 : decode cL_ofCell 24 = .ok (.ireturn, 1) := by decide +kernel
set_option maxRecDepth 20000 in
theorem ggL_ofTrack_X6_ofTrack : GoodIn wsL_ofTrack wsX6_ofTrack := goodIn_ca (goodIn_ca (goodIn_r _ [7, 8, 9, 10, 11, 12, 13, 14, 15, 16, 17, 18, 19, 20, 21, 22, 6, 23, 24, 25, 26, 27, 28, 29, 30, 31, 32, 33, 34, 35, 36, 37, 38, 39, 40, 41, 42, 43, 44, 45, 46, 47, 48, 49, 50, 51, 52, 53, 54, 55, 56, 57, 58, 59, 60, 61, 62, 63, 64, 65, 66, 67, 68, 69, 70, 71, 72, 73, 74, 75, 76, 77, 78, 79, 80, 81, 82, 83, 84, 85, 86, 87, 88, 89, 90, 91, 92, 93, 94, 95, 96, 97, 98, 99, 100, 101, 102, 103, 104, 105, 106, 107, 108, 109, 110, 111, 112, 113, 114, 115, 116, 117, 118] (by decide +kernel) (by decide +kernel)) (goodIn_sub (fun _ h => List.mem_cons_of_mem _ (List.mem_append_left _ (List.mem_append_right _ h))) (by decide +kernel))) (goodIn_sub (fun _ h => List.mem_cons_of_mem _ (List.mem_append_right _ h)) (by decide +kernel))
set_option maxRecDepth 20000 in
theorem gL_ofTrack_X6_ofTrack : GoodIn wsL_ofTrack (wsV RL 54 RX6 yX6_ofTrack wsX6_ofTrack) := goodIn_app (goodIn_of _ (by decide +kernel)) ggL_ofTrack_X6_ofTrack
theorem dL_ofTrack_0 : decode cL_ofTrack 0 = .ok (.aload_n 3, 1) := by decide +kernel
theorem dL_ofTrack_1 : decode cL_ofTrack 1 = .ok (.iconst 0, 1) := by decide +kernel
theorem dL_ofTrack_2 : decode cL_ofTrack 2 = .ok (.aload_n 0, 1) := by decide +kernel
theorem dL_ofTrack_3 : decode cL_ofTrack 3 = .ok (.iload_n 1, 1) := by decide +kernel
theorem dL_ofTrack_4 : decode cL_ofTrack 4 = .ok (.iload_n 2, 1) := by decide +kernel
theorem dL_ofTrack_5 : decode cL_ofTrack 5 = .ok (.invokevirtual 54, 3) := by decide +kernel
theorem dL_ofTrack_8 : decode cL_ofTrack 8 = .ok (.i2l, 1) := by decide +kernel
theorem dL_ofTrack_9 : decode cL_ofTrack 9 = .ok (.lastore, 1) := by decide +kernel
theorem dL_ofTrack_10 : decode cL_ofTrack 10 = .ok (.goto 11, 3) := by decide +kernel
theorem dL_ofTrack_13 : decode cL_ofTrack 13 = .ok (.astore 4, 2) := by decide +kernel
theorem dL_ofTrack_15 : decode cL_ofTrack 15 = .ok (.iconst 1, 1) := by decide +kernel
theorem dL_ofTrack_16 : decode cL_ofTrack 16 = .ok (.ireturn, 1) := by decide +kernel
theorem dL_ofTrack_17 : decode cL_ofTrack 17 = .ok (.astore 4, 2) := by decide +kernel
theorem dL_ofTrack_19 : decode cL_ofTrack 19 = .ok (.iconst 2, 1) := by decide +kernel
theorem dL_ofTrack_20 : decode cL_ofTrack 20 = .ok (.ireturn, 1) := by decide +kernel
theorem dL_ofTrack_21 : decode cL_ofTrack 21 = .ok (.iconst 0, 1) := by decide +kernel
theorem dL_ofTrack_22 : decode cL_ofTrack 22 = .ok (.ireturn, 1) := by decide +kernel
set_option maxRecDepth 20000 in
theorem ggL_vote_X6_vote : GoodIn wsL_vote wsX6_vote := goodIn_ca (goodIn_r _ [6, 7, 8, 9, 10, 11, 12, 13, 5, 14, 15, 16, 17, 18, 19, 20, 21, 22, 23, 24, 25, 26, 27, 28, 29, 30, 31, 32, 33, 34, 35, 36, 37, 38, 39, 40, 41, 42, 43, 44] (by decide +kernel) (by decide +kernel)) (goodIn_sub (fun _ h => List.mem_cons_of_mem _ (List.mem_append_right _ h)) (by decide +kernel))
set_option maxRecDepth 20000 in
theorem gL_vote_X6_vote : GoodIn wsL_vote (wsV RL 57 RX6 yX6_vote wsX6_vote) := goodIn_app (goodIn_of _ (by decide +kernel)) ggL_vote_X6_vote
theorem dL_vote_0 : decode cL_vote 0 = .ok (.aload_n 3, 1) := by decide +kernel
theorem dL_vote_1 : decode cL_vote 1 = .ok (.iconst 0, 1) := by decide +kernel
theorem dL_vote_2 : decode cL_vote 2 = .ok (.aload_n 0, 1) := by decide +kernel
theorem dL_vote_3 : decode cL_vote 3 = .ok (.iload_n 1, 1) := by decide +kernel
theorem dL_vote_4 : decode cL_vote 4 = .ok (.iload_n 2, 1) := by decide +kernel
theorem dL_vote_5 : decode cL_vote 5 = .ok (.invokevirtual 57, 3) := by decide +kernel
theorem dL_vote_8 : decode cL_vote 8 = .ok (.i2l, 1) := by decide +kernel
theorem dL_vote_9 : decode cL_vote 9 = .ok (.lastore, 1) := by decide +kernel
theorem dL_vote_10 : decode cL_vote 10 = .ok (.goto 7, 3) := by decide +kernel
theorem dL_vote_13 : decode cL_vote 13 = .ok (.astore 4, 2) := by decide +kernel
theorem dL_vote_15 : decode cL_vote 15 = .ok (.iconst 1, 1) := by decide +kernel
theorem dL_vote_16 : decode cL_vote 16 = .ok (.ireturn, 1) := by decide +kernel
theorem dL_vote_17 : decode cL_vote 17 = .ok (.iconst 0, 1) := by decide +kernel
theorem dL_vote_18 : decode cL_vote 18 = .ok (.ireturn, 1) := by decide +kernel
set_option maxRecDepth 20000 in
theorem ggL_turn_X6_turn : GoodIn wsL_turn wsX6_turn := goodIn_ca (goodIn_r _ [6, 7, 8, 9, 10, 11, 12, 5, 13, 14, 15, 16, 17, 18, 19, 20, 21, 22, 23, 24, 25, 26, 27, 28, 29, 30, 31, 32, 33, 34, 35, 36, 37, 38, 39, 40, 41, 42, 43, 44, 45, 46, 47, 48, 49, 50, 51, 52, 53, 54, 55, 56, 57, 58] (by decide +kernel) (by decide +kernel)) (goodIn_sub (fun _ h => List.mem_cons_of_mem _ (List.mem_append_right _ h)) (by decide +kernel))
set_option maxRecDepth 20000 in
theorem gL_turn_X6_turn : GoodIn wsL_turn (wsV RL 60 RX6 yX6_turn wsX6_turn) := goodIn_app (goodIn_of _ (by decide +kernel)) ggL_turn_X6_turn
theorem dL_turn_0 : decode cL_turn 0 = .ok (.aload 4, 2) := by decide +kernel
theorem dL_turn_2 : decode cL_turn 2 = .ok (.iconst 0, 1) := by decide +kernel
theorem dL_turn_3 : decode cL_turn 3 = .ok (.aload_n 0, 1) := by decide +kernel
theorem dL_turn_4 : decode cL_turn 4 = .ok (.iload_n 1, 1) := by decide +kernel
theorem dL_turn_5 : decode cL_turn 5 = .ok (.iload_n 2, 1) := by decide +kernel
theorem dL_turn_6 : decode cL_turn 6 = .ok (.iload_n 3, 1) := by decide +kernel
theorem dL_turn_7 : decode cL_turn 7 = .ok (.invokevirtual 60, 3) := by decide +kernel
theorem dL_turn_10 : decode cL_turn 10 = .ok (.i2l, 1) := by decide +kernel
theorem dL_turn_11 : decode cL_turn 11 = .ok (.lastore, 1) := by decide +kernel
theorem dL_turn_12 : decode cL_turn 12 = .ok (.goto 7, 3) := by decide +kernel
theorem dL_turn_15 : decode cL_turn 15 = .ok (.astore 5, 2) := by decide +kernel
theorem dL_turn_17 : decode cL_turn 17 = .ok (.iconst 1, 1) := by decide +kernel
theorem dL_turn_18 : decode cL_turn 18 = .ok (.ireturn, 1) := by decide +kernel
theorem dL_turn_19 : decode cL_turn 19 = .ok (.iconst 0, 1) := by decide +kernel
theorem dL_turn_20 : decode cL_turn 20 = .ok (.ireturn, 1) := by decide +kernel
set_option maxRecDepth 20000 in
theorem ggL_period_X6_period : GoodIn wsL_period wsX6_period := goodIn_ca (goodIn_r _ [6, 7, 8, 9, 10, 5, 11, 12, 13, 14, 15, 16, 17, 18, 19, 20, 21, 22, 23, 24, 25, 26, 27, 28, 29, 30, 31, 32, 33, 34, 35, 36, 37, 38, 39, 40, 41, 42, 43, 44, 45, 46, 47, 48, 49, 50, 51, 52, 53] (by decide +kernel) (by decide +kernel)) (goodIn_sub (fun _ h => List.mem_cons_of_mem _ (List.mem_append_right _ h)) (by decide +kernel))
set_option maxRecDepth 20000 in
theorem gL_period_X6_period : GoodIn wsL_period (wsV RL 63 RX6 yX6_period wsX6_period) := goodIn_app (goodIn_of _ (by decide +kernel)) ggL_period_X6_period
theorem dL_period_0 : decode cL_period 0 = .ok (.aload_n 3, 1) := by decide +kernel
theorem dL_period_1 : decode cL_period 1 = .ok (.iconst 0, 1) := by decide +kernel
theorem dL_period_2 : decode cL_period 2 = .ok (.aload_n 0, 1) := by decide +kernel
theorem dL_period_3 : decode cL_period 3 = .ok (.iload_n 1, 1) := by decide +kernel
theorem dL_period_4 : decode cL_period 4 = .ok (.iload_n 2, 1) := by decide +kernel
theorem dL_period_5 : decode cL_period 5 = .ok (.invokevirtual 63, 3) := by decide +kernel
theorem dL_period_8 : decode cL_period 8 = .ok (.dastore, 1) := by decide +kernel
theorem dL_period_9 : decode cL_period 9 = .ok (.goto 7, 3) := by decide +kernel
theorem dL_period_12 : decode cL_period 12 = .ok (.astore 4, 2) := by decide +kernel
theorem dL_period_14 : decode cL_period 14 = .ok (.iconst 1, 1) := by decide +kernel
theorem dL_period_15 : decode cL_period 15 = .ok (.ireturn, 1) := by decide +kernel
theorem dL_period_16 : decode cL_period 16 = .ok (.iconst 0, 1) := by decide +kernel
theorem dL_period_17 : decode cL_period 17 = .ok (.ireturn, 1) := by decide +kernel
set_option maxRecDepth 20000 in
theorem ggL_ofSector_X6_ofSector : GoodIn wsL_ofSector wsX6_ofSector := goodIn_ca (goodIn_ca (goodIn_r _ [7, 8, 9, 10, 11, 12, 13, 6, 14, 15, 16, 17, 18, 19, 20, 21, 22, 23, 24, 25, 26, 27, 28, 29, 30, 31, 32, 33, 34, 35, 36, 37, 38, 39, 40, 41, 42, 43, 44, 45, 46, 47, 48, 49, 50, 51, 52, 53, 54, 55, 56, 57, 58, 59, 60, 61, 62, 63, 64, 65, 66] (by decide +kernel) (by decide +kernel)) (goodIn_sub (fun _ h => List.mem_cons_of_mem _ (List.mem_append_left _ (List.mem_append_right _ h))) (by decide +kernel))) (goodIn_sub (fun _ h => List.mem_cons_of_mem _ (List.mem_append_right _ h)) (by decide +kernel))
set_option maxRecDepth 20000 in
theorem gL_ofSector_X6_ofSector : GoodIn wsL_ofSector (wsV RL 67 RX6 yX6_ofSector wsX6_ofSector) := goodIn_app (goodIn_of _ (by decide +kernel)) ggL_ofSector_X6_ofSector
theorem dL_ofSector_0 : decode cL_ofSector 0 = .ok (.aload 4, 2) := by decide +kernel
theorem dL_ofSector_2 : decode cL_ofSector 2 = .ok (.iconst 0, 1) := by decide +kernel
theorem dL_ofSector_3 : decode cL_ofSector 3 = .ok (.aload_n 0, 1) := by decide +kernel
theorem dL_ofSector_4 : decode cL_ofSector 4 = .ok (.iload_n 1, 1) := by decide +kernel
theorem dL_ofSector_5 : decode cL_ofSector 5 = .ok (.iload_n 2, 1) := by decide +kernel
theorem dL_ofSector_6 : decode cL_ofSector 6 = .ok (.iload_n 3, 1) := by decide +kernel
theorem dL_ofSector_7 : decode cL_ofSector 7 = .ok (.invokevirtual 67, 3) := by decide +kernel
theorem dL_ofSector_10 : decode cL_ofSector 10 = .ok (.i2l, 1) := by decide +kernel
theorem dL_ofSector_11 : decode cL_ofSector 11 = .ok (.lastore, 1) := by decide +kernel
theorem dL_ofSector_12 : decode cL_ofSector 12 = .ok (.goto 11, 3) := by decide +kernel
theorem dL_ofSector_15 : decode cL_ofSector 15 = .ok (.astore 5, 2) := by decide +kernel
theorem dL_ofSector_17 : decode cL_ofSector 17 = .ok (.iconst 1, 1) := by decide +kernel
theorem dL_ofSector_18 : decode cL_ofSector 18 = .ok (.ireturn, 1) := by decide +kernel
theorem dL_ofSector_19 : decode cL_ofSector 19 = .ok (.astore 5, 2) := by decide +kernel
theorem dL_ofSector_21 : decode cL_ofSector 21 = .ok (.iconst 2, 1) := by decide +kernel
theorem dL_ofSector_22 : decode cL_ofSector 22 = .ok (.ireturn, 1) := by decide +kernel
theorem dL_ofSector_23 : decode cL_ofSector 23 = .ok (.iconst 0, 1) := by decide +kernel
theorem dL_ofSector_24 : decode cL_ofSector 24 = .ok (.ireturn, 1) := by decide +kernel
set_option maxRecDepth 20000 in
theorem ggL_chain_X6_chain : GoodIn wsL_chain wsX6_chain := goodIn_ca (goodIn_ca (goodIn_r _ [7, 8, 9, 10, 6, 11, 12, 13, 14, 15, 16, 17, 18, 19, 20, 21, 22, 23, 24, 25, 26, 27, 28, 29, 30, 31, 32, 33, 34, 35, 36, 37, 38, 39, 40, 41, 42, 43, 44, 45, 46, 47, 48, 49, 50, 51, 52, 53, 54, 55, 56, 57, 58, 59, 60, 61, 62, 63, 64, 65, 66, 67, 68, 69, 70, 71, 72, 73, 74] (by decide +kernel) (by decide +kernel)) (goodIn_sub (fun _ h => List.mem_cons_of_mem _ (List.mem_append_left _ (List.mem_append_right _ h))) (by decide +kernel))) (goodIn_sub (fun _ h => List.mem_cons_of_mem _ (List.mem_append_right _ h)) (by decide +kernel))
set_option maxRecDepth 20000 in
theorem gL_chain_X6_chain : GoodIn wsL_chain (wsV RL 70 RX6 yX6_chain wsX6_chain) := goodIn_app (goodIn_of _ (by decide +kernel)) ggL_chain_X6_chain
theorem dL_chain_0 : decode cL_chain 0 = .ok (.aload_n 3, 1) := by decide +kernel
theorem dL_chain_1 : decode cL_chain 1 = .ok (.iconst 0, 1) := by decide +kernel
theorem dL_chain_2 : decode cL_chain 2 = .ok (.aload_n 0, 1) := by decide +kernel
theorem dL_chain_3 : decode cL_chain 3 = .ok (.iload_n 1, 1) := by decide +kernel
theorem dL_chain_4 : decode cL_chain 4 = .ok (.iload_n 2, 1) := by decide +kernel
theorem dL_chain_5 : decode cL_chain 5 = .ok (.invokevirtual 70, 3) := by decide +kernel
theorem dL_chain_8 : decode cL_chain 8 = .ok (.i2l, 1) := by decide +kernel
theorem dL_chain_9 : decode cL_chain 9 = .ok (.lastore, 1) := by decide +kernel
theorem dL_chain_10 : decode cL_chain 10 = .ok (.goto 11, 3) := by decide +kernel
theorem dL_chain_13 : decode cL_chain 13 = .ok (.astore 4, 2) := by decide +kernel
theorem dL_chain_15 : decode cL_chain 15 = .ok (.iconst 1, 1) := by decide +kernel
theorem dL_chain_16 : decode cL_chain 16 = .ok (.ireturn, 1) := by decide +kernel
theorem dL_chain_17 : decode cL_chain 17 = .ok (.astore 4, 2) := by decide +kernel
theorem dL_chain_19 : decode cL_chain 19 = .ok (.iconst 2, 1) := by decide +kernel
theorem dL_chain_20 : decode cL_chain 20 = .ok (.ireturn, 1) := by decide +kernel
theorem dL_chain_21 : decode cL_chain 21 = .ok (.iconst 0, 1) := by decide +kernel
theorem dL_chain_22 : decode cL_chain 22 = .ok (.ireturn, 1) := by decide +kernel
set_option maxRecDepth 20000 in
theorem ggL_many_X6_many : GoodIn wsL_many wsX6_many := goodIn_ca (goodIn_ca (goodIn_r _ [6, 7, 8, 9, 10, 11, 12, 13, 14, 5, 15, 16, 17, 18, 19, 20, 21, 22, 23, 24, 25, 26, 27, 28, 29, 30, 31, 32, 33, 34, 35, 36, 37, 38, 39, 40, 41, 42, 43, 44, 45, 46, 47, 48, 49, 50, 51, 52, 53, 54, 55, 56, 57, 58, 59, 60, 61, 62, 63, 64, 65, 66, 67, 68, 69, 70, 71, 72, 73] (by decide +kernel) (by decide +kernel)) (goodIn_sub (fun _ h => List.mem_cons_of_mem _ (List.mem_append_left _ (List.mem_append_right _ h))) (by decide +kernel))) (goodIn_sub (fun _ h => List.mem_cons_of_mem _ (List.mem_append_right _ h)) (by decide +kernel))
set_option maxRecDepth 20000 in
theorem gL_many_X6_many : GoodIn wsL_many (wsV RL 73 RX6 yX6_many wsX6_many) := goodIn_app (goodIn_of _ (by decide +kernel)) ggL_many_X6_many
theorem dL_many_0 : decode cL_many 0 = .ok (.aload_n 2, 1) := by decide +kernel
theorem dL_many_1 : decode cL_many 1 = .ok (.iconst 0, 1) := by decide +kernel
theorem dL_many_2 : decode cL_many 2 = .ok (.aload_n 0, 1) := by decide +kernel
theorem dL_many_3 : decode cL_many 3 = .ok (.iload_n 1, 1) := by decide +kernel
theorem dL_many_4 : decode cL_many 4 = .ok (.invokevirtual 73, 3) := by decide +kernel
theorem dL_many_7 : decode cL_many 7 = .ok (.i2l, 1) := by decide +kernel
theorem dL_many_8 : decode cL_many 8 = .ok (.lastore, 1) := by decide +kernel
theorem dL_many_9 : decode cL_many 9 = .ok (.goto 6, 3) := by decide +kernel
theorem dL_many_12 : decode cL_many 12 = .ok (.astore_n 3, 1) := by decide +kernel
theorem dL_many_13 : decode cL_many 13 = .ok (.iconst 1, 1) := by decide +kernel
theorem dL_many_14 : decode cL_many 14 = .ok (.ireturn, 1) := by decide +kernel
theorem dL_many_15 : decode cL_many 15 = .ok (.iconst 0, 1) := by decide +kernel
theorem dL_many_16 : decode cL_many 16 = .ok (.ireturn, 1) := by decide +kernel
set_option maxRecDepth 20000 in
theorem ggL_sure_X6_sure : GoodIn wsL_sure wsX6_sure := goodIn_ca (goodIn_r _ [6, 7, 8, 9, 10, 11, 12, 13, 5, 14, 15, 16, 17, 18, 19, 20, 21, 22, 23, 24, 25, 26, 27, 28, 29, 30, 31, 32, 33, 34, 35, 36, 37, 38, 39] (by decide +kernel) (by decide +kernel)) (goodIn_sub (fun _ h => List.mem_cons_of_mem _ (List.mem_append_right _ h)) (by decide +kernel))
set_option maxRecDepth 20000 in
theorem gL_sure_X6_sure : GoodIn wsL_sure (wsV RL 76 RX6 yX6_sure wsX6_sure) := goodIn_app (goodIn_of _ (by decide +kernel)) ggL_sure_X6_sure
theorem dL_sure_0 : decode cL_sure 0 = .ok (.aload_n 2, 1) := by decide +kernel
theorem dL_sure_1 : decode cL_sure 1 = .ok (.iconst 0, 1) := by decide +kernel
theorem dL_sure_2 : decode cL_sure 2 = .ok (.aload_n 0, 1) := by decide +kernel
theorem dL_sure_3 : decode cL_sure 3 = .ok (.iload_n 1, 1) := by decide +kernel
theorem dL_sure_4 : decode cL_sure 4 = .ok (.invokevirtual 76, 3) := by decide +kernel
theorem dL_sure_7 : decode cL_sure 7 = .ok (.dastore, 1) := by decide +kernel
theorem dL_sure_8 : decode cL_sure 8 = .ok (.goto 6, 3) := by decide +kernel
theorem dL_sure_11 : decode cL_sure 11 = .ok (.astore_n 3, 1) := by decide +kernel
theorem dL_sure_12 : decode cL_sure 12 = .ok (.iconst 1, 1) := by decide +kernel
theorem dL_sure_13 : decode cL_sure 13 = .ok (.ireturn, 1) := by decide +kernel
theorem dL_sure_14 : decode cL_sure 14 = .ok (.iconst 0, 1) := by decide +kernel
theorem dL_sure_15 : decode cL_sure 15 = .ok (.ireturn, 1) := by decide +kernel
set_option maxRecDepth 20000 in
theorem ggL_plainLong_X6_plainLong : GoodIn wsL_plainLong wsX6_plainLong := goodIn_ca (goodIn_r _ [6, 7, 8, 9, 10, 5, 11, 12, 13, 14, 15, 16, 17, 18, 19, 20, 21, 22, 23, 24, 25, 26, 27, 28, 29, 30, 31, 32, 33, 34, 35, 36, 37, 38, 39, 40, 41, 42, 43, 44, 45, 46, 47, 48, 49, 50, 51, 52, 53, 54] (by decide +kernel) (by decide +kernel)) (goodIn_sub (fun _ h => List.mem_cons_of_mem _ (List.mem_append_right _ h)) (by decide +kernel))
set_option maxRecDepth 20000 in
theorem gL_plainLong_X6_plainLong : GoodIn wsL_plainLong (wsV RL 80 RX6 yX6_plainLong wsX6_plainLong) := goodIn_app (goodIn_of _ (by decide +kernel)) ggL_plainLong_X6_plainLong
theorem dL_plainLong_0 : decode cL_plainLong 0 = .ok (.aload_n 2, 1) := by decide +kernel
theorem dL_plainLong_1 : decode cL_plainLong 1 = .ok (.iconst 0, 1) := by decide +kernel
theorem dL_plainLong_2 : decode cL_plainLong 2 = .ok (.aload_n 0, 1) := by decide +kernel
theorem dL_plainLong_3 : decode cL_plainLong 3 = .ok (.iload_n 1, 1) := by decide +kernel
theorem dL_plainLong_4 : decode cL_plainLong 4 = .ok (.invokevirtual 80, 3) := by decide +kernel
theorem dL_plainLong_7 : decode cL_plainLong 7 = .ok (.i2l, 1) := by decide +kernel
theorem dL_plainLong_8 : decode cL_plainLong 8 = .ok (.lastore, 1) := by decide +kernel
theorem dL_plainLong_9 : decode cL_plainLong 9 = .ok (.goto 6, 3) := by decide +kernel
theorem dL_plainLong_12 : decode cL_plainLong 12 = .ok (.astore_n 3, 1) := by decide +kernel
theorem dL_plainLong_13 : decode cL_plainLong 13 = .ok (.iconst 1, 1) := by decide +kernel
theorem dL_plainLong_14 : decode cL_plainLong 14 = .ok (.ireturn, 1) := by decide +kernel
theorem dL_plainLong_15 : decode cL_plainLong 15 = .ok (.iconst 0, 1) := by decide +kernel
theorem dL_plainLong_16 : decode cL_plainLong 16 = .ok (.ireturn, 1) := by decide +kernel
set_option maxRecDepth 20000 in
theorem ggL_wouldLose_X6_wouldLose : GoodIn wsL_wouldLose wsX6_wouldLose := goodIn_ca (goodIn_r _ [6, 7, 8, 9, 10, 5, 11, 12, 13, 14, 15, 16, 17, 18, 19, 20, 21, 22, 23, 24, 25, 26, 27, 28, 29, 30, 31, 32, 33, 34, 35, 36, 37, 38, 39, 40, 41, 42, 43, 44, 45, 46, 47, 48, 49, 50, 51, 52, 53, 54, 55, 56, 57, 58, 59, 60, 61, 62, 63, 64, 65, 66, 67, 68, 69, 70, 71, 72, 73, 74, 75, 76, 77, 78, 79, 80] (by decide +kernel) (by decide +kernel)) (goodIn_sub (fun _ h => List.mem_cons_of_mem _ (List.mem_append_right _ h)) (by decide +kernel))
set_option maxRecDepth 20000 in
theorem gL_wouldLose_X6_wouldLose : GoodIn wsL_wouldLose (wsV RL 83 RX6 yX6_wouldLose wsX6_wouldLose) := goodIn_app (goodIn_of _ (by decide +kernel)) ggL_wouldLose_X6_wouldLose
theorem dL_wouldLose_0 : decode cL_wouldLose 0 = .ok (.aload_n 2, 1) := by decide +kernel
theorem dL_wouldLose_1 : decode cL_wouldLose 1 = .ok (.iconst 0, 1) := by decide +kernel
theorem dL_wouldLose_2 : decode cL_wouldLose 2 = .ok (.aload_n 0, 1) := by decide +kernel
theorem dL_wouldLose_3 : decode cL_wouldLose 3 = .ok (.iload_n 1, 1) := by decide +kernel
theorem dL_wouldLose_4 : decode cL_wouldLose 4 = .ok (.invokevirtual 83, 3) := by decide +kernel
theorem dL_wouldLose_7 : decode cL_wouldLose 7 = .ok (.i2l, 1) := by decide +kernel
theorem dL_wouldLose_8 : decode cL_wouldLose 8 = .ok (.lastore, 1) := by decide +kernel
theorem dL_wouldLose_9 : decode cL_wouldLose 9 = .ok (.goto 6, 3) := by decide +kernel
theorem dL_wouldLose_12 : decode cL_wouldLose 12 = .ok (.astore_n 3, 1) := by decide +kernel
theorem dL_wouldLose_13 : decode cL_wouldLose 13 = .ok (.iconst 1, 1) := by decide +kernel
theorem dL_wouldLose_14 : decode cL_wouldLose 14 = .ok (.ireturn, 1) := by decide +kernel
theorem dL_wouldLose_15 : decode cL_wouldLose 15 = .ok (.iconst 0, 1) := by decide +kernel
theorem dL_wouldLose_16 : decode cL_wouldLose 16 = .ok (.ireturn, 1) := by decide +kernel
set_option maxRecDepth 20000 in
theorem ggL_goodBy_X6_goodBy : GoodIn wsL_goodBy wsX6_goodBy := goodIn_ca (goodIn_ca (goodIn_r _ [7, 8, 9, 10, 11, 6, 12, 13, 14, 15, 16, 17, 18, 19, 20, 21, 22, 23, 24, 25, 26, 27, 28, 29, 30, 31, 32, 33, 34, 35, 36, 37, 38, 39, 40, 41, 42, 43, 44, 45, 46, 47, 48, 49, 50, 51, 52, 53, 54, 55] (by decide +kernel) (by decide +kernel)) (goodIn_sub (fun _ h => List.mem_cons_of_mem _ (List.mem_append_left _ (List.mem_append_right _ h))) (by decide +kernel))) (goodIn_sub (fun _ h => List.mem_cons_of_mem _ (List.mem_append_right _ h)) (by decide +kernel))
set_option maxRecDepth 20000 in
theorem gL_goodBy_X6_goodBy : GoodIn wsL_goodBy (wsV RL 86 RX6 yX6_goodBy wsX6_goodBy) := goodIn_app (goodIn_of _ (by decide +kernel)) ggL_goodBy_X6_goodBy
theorem dL_goodBy_0 : decode cL_goodBy 0 = .ok (.aload_n 3, 1) := by decide +kernel
theorem dL_goodBy_1 : decode cL_goodBy 1 = .ok (.iconst 0, 1) := by decide +kernel
theorem dL_goodBy_2 : decode cL_goodBy 2 = .ok (.aload_n 0, 1) := by decide +kernel
theorem dL_goodBy_3 : decode cL_goodBy 3 = .ok (.iload_n 1, 1) := by decide +kernel
theorem dL_goodBy_4 : decode cL_goodBy 4 = .ok (.iload_n 2, 1) := by decide +kernel
theorem dL_goodBy_5 : decode cL_goodBy 5 = .ok (.invokevirtual 86, 3) := by decide +kernel
theorem dL_goodBy_8 : decode cL_goodBy 8 = .ok (.i2l, 1) := by decide +kernel
theorem dL_goodBy_9 : decode cL_goodBy 9 = .ok (.lastore, 1) := by decide +kernel
theorem dL_goodBy_10 : decode cL_goodBy 10 = .ok (.goto 11, 3) := by decide +kernel
theorem dL_goodBy_13 : decode cL_goodBy 13 = .ok (.astore 4, 2) := by decide +kernel
theorem dL_goodBy_15 : decode cL_goodBy 15 = .ok (.iconst 1, 1) := by decide +kernel
theorem dL_goodBy_16 : decode cL_goodBy 16 = .ok (.ireturn, 1) := by decide +kernel
theorem dL_goodBy_17 : decode cL_goodBy 17 = .ok (.astore 4, 2) := by decide +kernel
theorem dL_goodBy_19 : decode cL_goodBy 19 = .ok (.iconst 2, 1) := by decide +kernel
theorem dL_goodBy_20 : decode cL_goodBy 20 = .ok (.ireturn, 1) := by decide +kernel
theorem dL_goodBy_21 : decode cL_goodBy 21 = .ok (.iconst 0, 1) := by decide +kernel
theorem dL_goodBy_22 : decode cL_goodBy 22 = .ok (.ireturn, 1) := by decide +kernel
