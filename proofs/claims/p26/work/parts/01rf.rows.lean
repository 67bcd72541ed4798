theorem dX6_init_0 : decode cX6_init 0 = .ok (.aload_n 0, 1) := by decide +kernel
theorem dX6_init_1 : decode cX6_init 1 = .ok (.invokespecial 1, 3) := by decide +kernel
theorem dX6_init_4 : decode cX6_init 4 = .ok (.aload_n 0, 1) := by decide +kernel
theorem dX6_init_5 : decode cX6_init 5 = .ok (.iconst 4, 1) := by decide +kernel
theorem dX6_init_6 : decode cX6_init 6 = .ok (.anewarray 9, 3) := by decide +kernel
theorem dX6_init_9 : decode cX6_init 9 = .ok (.putfield 11, 3) := by decide +kernel
theorem dX6_init_12 : decode cX6_init 12 = .ok (.aload_n 0, 1) := by decide +kernel
theorem dX6_init_13 : decode cX6_init 13 = .ok (.iconst 0, 1) := by decide +kernel
theorem dX6_init_14 : decode cX6_init 14 = .ok (.putfield 15, 3) := by decide +kernel
theorem dX6_init_17 : decode cX6_init 17 = .ok (.aload_n 0, 1) := by decide +kernel
theorem dX6_init_18 : decode cX6_init 18 = .ok (.bipush 8, 2) := by decide +kernel
theorem dX6_init_20 : decode cX6_init 20 = .ok (.putfield 19, 3) := by decide +kernel
theorem dX6_init_23 : decode cX6_init 23 = .ok (.aload_n 0, 1) := by decide +kernel
theorem dX6_init_24 : decode cX6_init 24 = .ok (.iconst 0, 1) := by decide +kernel
theorem dX6_init_25 : decode cX6_init 25 = .ok (.putfield 22, 3) := by decide +kernel
theorem dX6_init_28 : decode cX6_init 28 = .ok (.aload_n 0, 1) := by decide +kernel
theorem dX6_init_29 : decode cX6_init 29 = .ok (.iconst 0, 1) := by decide +kernel
theorem dX6_init_30 : decode cX6_init 30 = .ok (.putfield 25, 3) := by decide +kernel
theorem dX6_init_33 : decode cX6_init 33 = .ok (.aload_n 0, 1) := by decide +kernel
theorem dX6_init_34 : decode cX6_init 34 = .ok (.iconst 0, 1) := by decide +kernel
theorem dX6_init_35 : decode cX6_init 35 = .ok (.putfield 28, 3) := by decide +kernel
theorem dX6_init_38 : decode cX6_init 38 = .ok (.aload_n 0, 1) := by decide +kernel
theorem dX6_init_39 : decode cX6_init 39 = .ok (.iconst 0, 1) := by decide +kernel
theorem dX6_init_40 : decode cX6_init 40 = .ok (.putfield 31, 3) := by decide +kernel
theorem dX6_init_43 : decode cX6_init 43 = .ok (.return_, 1) := by decide +kernel
theorem dX6_track_0 : decode cX6_track 0 = .ok (.iload_n 1, 1) := by decide +kernel
theorem dX6_track_1 : decode cX6_track 1 = .ok (.invokestatic 34, 3) := by decide +kernel
theorem dX6_track_4 : decode cX6_track 4 = .ok (.aload_n 0, 1) := by decide +kernel
theorem dX6_track_5 : decode cX6_track 5 = .ok (.getfield 15, 3) := by decide +kernel
theorem dX6_track_8 : decode cX6_track 8 = .ok (.istore_n 2, 1) := by decide +kernel
theorem dX6_track_9 : decode cX6_track 9 = .ok (.iload_n 2, 1) := by decide +kernel
theorem dX6_track_10 : decode cX6_track 10 = .ok (.ifCond .lt 12, 3) := by decide +kernel
theorem dX6_track_13 : decode cX6_track 13 = .ok (.iload_n 2, 1) := by decide +kernel
theorem dX6_track_14 : decode cX6_track 14 = .ok (.aload_n 0, 1) := by decide +kernel
theorem dX6_track_15 : decode cX6_track 15 = .ok (.getfield 11, 3) := by decide +kernel
theorem dX6_track_18 : decode cX6_track 18 = .ok (.arraylength, 1) := by decide +kernel
theorem dX6_track_19 : decode cX6_track 19 = .ok (.if_icmp .lt 13, 3) := by decide +kernel
theorem dX6_track_22 : decode cX6_track 22 = .ok (.new 38, 3) := by decide +kernel
theorem dX6_track_25 : decode cX6_track 25 = .ok (.dup, 1) := by decide +kernel
theorem dX6_track_26 : decode cX6_track 26 = .ok (.ldc 40, 2) := by decide +kernel
theorem dX6_track_28 : decode cX6_track 28 = .ok (.invokespecial 42, 3) := by decide +kernel
theorem dX6_track_31 : decode cX6_track 31 = .ok (.athrow, 1) := by decide +kernel
theorem dX6_track_32 : decode cX6_track 32 = .ok (.aload_n 0, 1) := by decide +kernel
theorem dX6_track_33 : decode cX6_track 33 = .ok (.getfield 11, 3) := by decide +kernel
theorem dX6_track_36 : decode cX6_track 36 = .ok (.iload_n 2, 1) := by decide +kernel
theorem dX6_track_37 : decode cX6_track 37 = .ok (.new 9, 3) := by decide +kernel
theorem dX6_track_40 : decode cX6_track 40 = .ok (.dup, 1) := by decide +kernel
theorem dX6_track_41 : decode cX6_track 41 = .ok (.iload_n 1, 1) := by decide +kernel
theorem dX6_track_42 : decode cX6_track 42 = .ok (.invokespecial 45, 3) := by decide +kernel
theorem dX6_track_45 : decode cX6_track 45 = .ok (.aastore, 1) := by decide +kernel
theorem dX6_track_46 : decode cX6_track 46 = .ok (.aload_n 0, 1) := by decide +kernel
theorem dX6_track_47 : decode cX6_track 47 = .ok (.iload_n 2, 1) := by decide +kernel
theorem dX6_track_48 : decode cX6_track 48 = .ok (.iconst 1, 1) := by decide +kernel
theorem dX6_track_49 : decode cX6_track 49 = .ok (.iadd, 1) := by decide +kernel
theorem dX6_track_50 : decode cX6_track 50 = .ok (.putfield 15, 3) := by decide +kernel
theorem dX6_track_53 : decode cX6_track 53 = .ok (.iload_n 2, 1) := by decide +kernel
theorem dX6_track_54 : decode cX6_track 54 = .ok (.ireturn, 1) := by decide +kernel
theorem dX6_speed_0 : decode cX6_speed 0 = .ok (.iload_n 1, 1) := by decide +kernel
theorem dX6_speed_1 : decode cX6_speed 1 = .ok (.bipush 6, 2) := by decide +kernel
theorem dX6_speed_3 : decode cX6_speed 3 = .ok (.if_icmp .lt 9, 3) := by decide +kernel
theorem dX6_speed_6 : decode cX6_speed 6 = .ok (.iload_n 1, 1) := by decide +kernel
theorem dX6_speed_7 : decode cX6_speed 7 = .ok (.bipush 11, 2) := by decide +kernel
theorem dX6_speed_9 : decode cX6_speed 9 = .ok (.if_icmp .le 13, 3) := by decide +kernel
theorem dX6_speed_12 : decode cX6_speed 12 = .ok (.new 47, 3) := by decide +kernel
theorem dX6_speed_15 : decode cX6_speed 15 = .ok (.dup, 1) := by decide +kernel
theorem dX6_speed_16 : decode cX6_speed 16 = .ok (.ldc 49, 2) := by decide +kernel
theorem dX6_speed_18 : decode cX6_speed 18 = .ok (.invokespecial 51, 3) := by decide +kernel
theorem dX6_speed_21 : decode cX6_speed 21 = .ok (.athrow, 1) := by decide +kernel
theorem dX6_speed_22 : decode cX6_speed 22 = .ok (.aload_n 0, 1) := by decide +kernel
theorem dX6_speed_23 : decode cX6_speed 23 = .ok (.getfield 19, 3) := by decide +kernel
theorem dX6_speed_26 : decode cX6_speed 26 = .ok (.istore_n 2, 1) := by decide +kernel
theorem dX6_speed_27 : decode cX6_speed 27 = .ok (.aload_n 0, 1) := by decide +kernel
theorem dX6_speed_28 : decode cX6_speed 28 = .ok (.iload_n 1, 1) := by decide +kernel
theorem dX6_speed_29 : decode cX6_speed 29 = .ok (.putfield 19, 3) := by decide +kernel
theorem dX6_speed_32 : decode cX6_speed 32 = .ok (.iload_n 2, 1) := by decide +kernel
theorem dX6_speed_33 : decode cX6_speed 33 = .ok (.ireturn, 1) := by decide +kernel
theorem dX6_write_0 : decode cX6_write 0 = .ok (.aload_n 0, 1) := by decide +kernel
theorem dX6_write_1 : decode cX6_write 1 = .ok (.iload_n 1, 1) := by decide +kernel
theorem dX6_write_2 : decode cX6_write 2 = .ok (.invokevirtual 52, 3) := by decide +kernel
theorem dX6_write_5 : decode cX6_write 5 = .ok (.astore_n 3, 1) := by decide +kernel
theorem dX6_write_6 : decode cX6_write 6 = .ok (.iload_n 2, 1) := by decide +kernel
theorem dX6_write_7 : decode cX6_write 7 = .ok (.invokestatic 56, 3) := by decide +kernel
theorem dX6_write_10 : decode cX6_write 10 = .ok (.aload_n 3, 1) := by decide +kernel
theorem dX6_write_11 : decode cX6_write 11 = .ok (.aload_n 3, 1) := by decide +kernel
theorem dX6_write_12 : decode cX6_write 12 = .ok (.getfield 59, 3) := by decide +kernel
theorem dX6_write_15 : decode cX6_write 15 = .ok (.invokestatic 62, 3) := by decide +kernel
theorem dX6_write_18 : decode cX6_write 18 = .ok (.invokestatic 68, 3) := by decide +kernel
theorem dX6_write_21 : decode cX6_write 21 = .ok (.aload_n 3, 1) := by decide +kernel
theorem dX6_write_22 : decode cX6_write 22 = .ok (.getfield 72, 3) := by decide +kernel
theorem dX6_write_25 : decode cX6_write 25 = .ok (.aload_n 3, 1) := by decide +kernel
theorem dX6_write_26 : decode cX6_write 26 = .ok (.getfield 59, 3) := by decide +kernel
theorem dX6_write_29 : decode cX6_write 29 = .ok (.iload_n 2, 1) := by decide +kernel
theorem dX6_write_30 : decode cX6_write 30 = .ok (.aload_n 0, 1) := by decide +kernel
theorem dX6_write_31 : decode cX6_write 31 = .ok (.getfield 19, 3) := by decide +kernel
theorem dX6_write_34 : decode cX6_write 34 = .ok (.invokevirtual 76, 3) := by decide +kernel
theorem dX6_write_37 : decode cX6_write 37 = .ok (.aload_n 3, 1) := by decide +kernel
theorem dX6_write_38 : decode cX6_write 38 = .ok (.getfield 72, 3) := by decide +kernel
theorem dX6_write_41 : decode cX6_write 41 = .ok (.getfield 82, 3) := by decide +kernel
theorem dX6_write_44 : decode cX6_write 44 = .ok (.ireturn, 1) := by decide +kernel
theorem dX6_mark_0 : decode cX6_mark 0 = .ok (.aload_n 0, 1) := by decide +kernel
theorem dX6_mark_1 : decode cX6_mark 1 = .ok (.iload_n 1, 1) := by decide +kernel
theorem dX6_mark_2 : decode cX6_mark 2 = .ok (.invokevirtual 52, 3) := by decide +kernel
theorem dX6_mark_5 : decode cX6_mark 5 = .ok (.astore_n 2, 1) := by decide +kernel
theorem dX6_mark_6 : decode cX6_mark 6 = .ok (.aload_n 2, 1) := by decide +kernel
theorem dX6_mark_7 : decode cX6_mark 7 = .ok (.bipush 10, 2) := by decide +kernel
theorem dX6_mark_9 : decode cX6_mark 9 = .ok (.invokestatic 68, 3) := by decide +kernel
theorem dX6_mark_12 : decode cX6_mark 12 = .ok (.aload_n 2, 1) := by decide +kernel
theorem dX6_mark_13 : decode cX6_mark 13 = .ok (.getfield 72, 3) := by decide +kernel
theorem dX6_mark_16 : decode cX6_mark 16 = .ok (.aload_n 0, 1) := by decide +kernel
theorem dX6_mark_17 : decode cX6_mark 17 = .ok (.getfield 19, 3) := by decide +kernel
theorem dX6_mark_20 : decode cX6_mark 20 = .ok (.invokevirtual 85, 3) := by decide +kernel
theorem dX6_mark_23 : decode cX6_mark 23 = .ok (.aload_n 2, 1) := by decide +kernel
theorem dX6_mark_24 : decode cX6_mark 24 = .ok (.getfield 72, 3) := by decide +kernel
theorem dX6_mark_27 : decode cX6_mark 27 = .ok (.getfield 82, 3) := by decide +kernel
theorem dX6_mark_30 : decode cX6_mark 30 = .ok (.ireturn, 1) := by decide +kernel
theorem dX6_sector_0 : decode cX6_sector 0 = .ok (.aload_n 0, 1) := by decide +kernel
theorem dX6_sector_1 : decode cX6_sector 1 = .ok (.iload_n 1, 1) := by decide +kernel
theorem dX6_sector_2 : decode cX6_sector 2 = .ok (.invokevirtual 52, 3) := by decide +kernel
theorem dX6_sector_5 : decode cX6_sector 5 = .ok (.astore 6, 2) := by decide +kernel
theorem dX6_sector_7 : decode cX6_sector 7 = .ok (.iload_n 2, 1) := by decide +kernel
theorem dX6_sector_8 : decode cX6_sector 8 = .ok (.invokestatic 56, 3) := by decide +kernel
theorem dX6_sector_11 : decode cX6_sector 11 = .ok (.iload_n 3, 1) := by decide +kernel
theorem dX6_sector_12 : decode cX6_sector 12 = .ok (.iconst 1, 1) := by decide +kernel
theorem dX6_sector_13 : decode cX6_sector 13 = .ok (.if_icmp .lt 8, 3) := by decide +kernel
theorem dX6_sector_16 : decode cX6_sector 16 = .ok (.iload_n 3, 1) := by decide +kernel
theorem dX6_sector_17 : decode cX6_sector 17 = .ok (.iconst 4, 1) := by decide +kernel
theorem dX6_sector_18 : decode cX6_sector 18 = .ok (.if_icmp .le 13, 3) := by decide +kernel
theorem dX6_sector_21 : decode cX6_sector 21 = .ok (.new 47, 3) := by decide +kernel
theorem dX6_sector_24 : decode cX6_sector 24 = .ok (.dup, 1) := by decide +kernel
theorem dX6_sector_25 : decode cX6_sector 25 = .ok (.ldc 88, 2) := by decide +kernel
theorem dX6_sector_27 : decode cX6_sector 27 = .ok (.invokespecial 51, 3) := by decide +kernel
theorem dX6_sector_30 : decode cX6_sector 30 = .ok (.athrow, 1) := by decide +kernel
theorem dX6_sector_31 : decode cX6_sector 31 = .ok (.iload 4, 2) := by decide +kernel
theorem dX6_sector_33 : decode cX6_sector 33 = .ok (.ifCond .ge 13, 3) := by decide +kernel
theorem dX6_sector_36 : decode cX6_sector 36 = .ok (.new 47, 3) := by decide +kernel
theorem dX6_sector_39 : decode cX6_sector 39 = .ok (.dup, 1) := by decide +kernel
theorem dX6_sector_40 : decode cX6_sector 40 = .ok (.ldc 90, 2) := by decide +kernel
theorem dX6_sector_42 : decode cX6_sector 42 = .ok (.invokespecial 51, 3) := by decide +kernel
theorem dX6_sector_45 : decode cX6_sector 45 = .ok (.athrow, 1) := by decide +kernel
theorem dX6_sector_46 : decode cX6_sector 46 = .ok (.aload 6, 2) := by decide +kernel
theorem dX6_sector_48 : decode cX6_sector 48 = .ok (.aload 6, 2) := by decide +kernel
theorem dX6_sector_50 : decode cX6_sector 50 = .ok (.getfield 59, 3) := by decide +kernel
theorem dX6_sector_53 : decode cX6_sector 53 = .ok (.iload_n 3, 1) := by decide +kernel
theorem dX6_sector_54 : decode cX6_sector 54 = .ok (.invokestatic 92, 3) := by decide +kernel
theorem dX6_sector_57 : decode cX6_sector 57 = .ok (.invokestatic 68, 3) := by decide +kernel
theorem dX6_sector_60 : decode cX6_sector 60 = .ok (.aload 6, 2) := by decide +kernel
theorem dX6_sector_62 : decode cX6_sector 62 = .ok (.getfield 72, 3) := by decide +kernel
theorem dX6_sector_65 : decode cX6_sector 65 = .ok (.aload 6, 2) := by decide +kernel
theorem dX6_sector_67 : decode cX6_sector 67 = .ok (.getfield 59, 3) := by decide +kernel
theorem dX6_sector_70 : decode cX6_sector 70 = .ok (.iload_n 2, 1) := by decide +kernel
theorem dX6_sector_71 : decode cX6_sector 71 = .ok (.iload_n 3, 1) := by decide +kernel
theorem dX6_sector_72 : decode cX6_sector 72 = .ok (.iload 4, 2) := by decide +kernel
theorem dX6_sector_74 : decode cX6_sector 74 = .ok (.iload 5, 2) := by decide +kernel
theorem dX6_sector_76 : decode cX6_sector 76 = .ok (.aload_n 0, 1) := by decide +kernel
theorem dX6_sector_77 : decode cX6_sector 77 = .ok (.getfield 19, 3) := by decide +kernel
theorem dX6_sector_80 : decode cX6_sector 80 = .ok (.invokevirtual 96, 3) := by decide +kernel
theorem dX6_sector_83 : decode cX6_sector 83 = .ok (.aload 6, 2) := by decide +kernel
theorem dX6_sector_85 : decode cX6_sector 85 = .ok (.getfield 72, 3) := by decide +kernel
theorem dX6_sector_88 : decode cX6_sector 88 = .ok (.getfield 82, 3) := by decide +kernel
theorem dX6_sector_91 : decode cX6_sector 91 = .ok (.ireturn, 1) := by decide +kernel
theorem dX6_weak_0 : decode cX6_weak 0 = .ok (.aload_n 0, 1) := by decide +kernel
theorem dX6_weak_1 : decode cX6_weak 1 = .ok (.iload_n 1, 1) := by decide +kernel
theorem dX6_weak_2 : decode cX6_weak 2 = .ok (.invokevirtual 52, 3) := by decide +kernel
theorem dX6_weak_5 : decode cX6_weak 5 = .ok (.getfield 72, 3) := by decide +kernel
theorem dX6_weak_8 : decode cX6_weak 8 = .ok (.astore 4, 2) := by decide +kernel
theorem dX6_weak_10 : decode cX6_weak 10 = .ok (.aload 4, 2) := by decide +kernel
theorem dX6_weak_12 : decode cX6_weak 12 = .ok (.iload_n 2, 1) := by decide +kernel
theorem dX6_weak_13 : decode cX6_weak 13 = .ok (.invokestatic 100, 3) := by decide +kernel
theorem dX6_weak_16 : decode cX6_weak 16 = .ok (.aload 4, 2) := by decide +kernel
theorem dX6_weak_18 : decode cX6_weak 18 = .ok (.iload_n 2, 1) := by decide +kernel
theorem dX6_weak_19 : decode cX6_weak 19 = .ok (.invokevirtual 104, 3) := by decide +kernel
theorem dX6_weak_22 : decode cX6_weak 22 = .ok (.istore 5, 2) := by decide +kernel
theorem dX6_weak_24 : decode cX6_weak 24 = .ok (.aload 4, 2) := by decide +kernel
theorem dX6_weak_26 : decode cX6_weak 26 = .ok (.iload_n 2, 1) := by decide +kernel
theorem dX6_weak_27 : decode cX6_weak 27 = .ok (.iload_n 3, 1) := by decide +kernel
theorem dX6_weak_28 : decode cX6_weak 28 = .ok (.invokevirtual 108, 3) := by decide +kernel
theorem dX6_weak_31 : decode cX6_weak 31 = .ok (.iload 5, 2) := by decide +kernel
theorem dX6_weak_33 : decode cX6_weak 33 = .ok (.ireturn, 1) := by decide +kernel
theorem dX6_dirt_0 : decode cX6_dirt 0 = .ok (.aload_n 0, 1) := by decide +kernel
theorem dX6_dirt_1 : decode cX6_dirt 1 = .ok (.iload_n 1, 1) := by decide +kernel
theorem dX6_dirt_2 : decode cX6_dirt 2 = .ok (.invokevirtual 52, 3) := by decide +kernel
theorem dX6_dirt_5 : decode cX6_dirt 5 = .ok (.getfield 72, 3) := by decide +kernel
theorem dX6_dirt_8 : decode cX6_dirt 8 = .ok (.astore 4, 2) := by decide +kernel
theorem dX6_dirt_10 : decode cX6_dirt 10 = .ok (.aload 4, 2) := by decide +kernel
theorem dX6_dirt_12 : decode cX6_dirt 12 = .ok (.iload_n 2, 1) := by decide +kernel
theorem dX6_dirt_13 : decode cX6_dirt 13 = .ok (.invokestatic 100, 3) := by decide +kernel
theorem dX6_dirt_16 : decode cX6_dirt 16 = .ok (.aload 4, 2) := by decide +kernel
theorem dX6_dirt_18 : decode cX6_dirt 18 = .ok (.iload_n 3, 1) := by decide +kernel
theorem dX6_dirt_19 : decode cX6_dirt 19 = .ok (.invokestatic 100, 3) := by decide +kernel
theorem dX6_dirt_22 : decode cX6_dirt 22 = .ok (.iload_n 3, 1) := by decide +kernel
theorem dX6_dirt_23 : decode cX6_dirt 23 = .ok (.iload_n 2, 1) := by decide +kernel
theorem dX6_dirt_24 : decode cX6_dirt 24 = .ok (.if_icmp .ge 13, 3) := by decide +kernel
theorem dX6_dirt_27 : decode cX6_dirt 27 = .ok (.new 47, 3) := by decide +kernel
theorem dX6_dirt_30 : decode cX6_dirt 30 = .ok (.dup, 1) := by decide +kernel
theorem dX6_dirt_31 : decode cX6_dirt 31 = .ok (.ldc 112, 2) := by decide +kernel
theorem dX6_dirt_33 : decode cX6_dirt 33 = .ok (.invokespecial 51, 3) := by decide +kernel
theorem dX6_dirt_36 : decode cX6_dirt 36 = .ok (.athrow, 1) := by decide +kernel
theorem dX6_dirt_37 : decode cX6_dirt 37 = .ok (.aload 4, 2) := by decide +kernel
theorem dX6_dirt_39 : decode cX6_dirt 39 = .ok (.iload_n 2, 1) := by decide +kernel
theorem dX6_dirt_40 : decode cX6_dirt 40 = .ok (.iload_n 3, 1) := by decide +kernel
theorem dX6_dirt_41 : decode cX6_dirt 41 = .ok (.invokevirtual 114, 3) := by decide +kernel
theorem dX6_dirt_44 : decode cX6_dirt 44 = .ok (.aload 4, 2) := by decide +kernel
theorem dX6_dirt_46 : decode cX6_dirt 46 = .ok (.iconst 1, 1) := by decide +kernel
theorem dX6_dirt_47 : decode cX6_dirt 47 = .ok (.invokevirtual 118, 3) := by decide +kernel
theorem dX6_dirt_50 : decode cX6_dirt 50 = .ok (.ireturn, 1) := by decide +kernel
theorem dX6_clean_0 : decode cX6_clean 0 = .ok (.aload_n 0, 1) := by decide +kernel
theorem dX6_clean_1 : decode cX6_clean 1 = .ok (.iload_n 1, 1) := by decide +kernel
theorem dX6_clean_2 : decode cX6_clean 2 = .ok (.invokevirtual 52, 3) := by decide +kernel
theorem dX6_clean_5 : decode cX6_clean 5 = .ok (.getfield 72, 3) := by decide +kernel
theorem dX6_clean_8 : decode cX6_clean 8 = .ok (.astore_n 2, 1) := by decide +kernel
theorem dX6_clean_9 : decode cX6_clean 9 = .ok (.aload_n 2, 1) := by decide +kernel
theorem dX6_clean_10 : decode cX6_clean 10 = .ok (.invokevirtual 121, 3) := by decide +kernel
theorem dX6_clean_13 : decode cX6_clean 13 = .ok (.aload_n 2, 1) := by decide +kernel
theorem dX6_clean_14 : decode cX6_clean 14 = .ok (.iconst 2, 1) := by decide +kernel
theorem dX6_clean_15 : decode cX6_clean 15 = .ok (.invokevirtual 118, 3) := by decide +kernel
theorem dX6_clean_18 : decode cX6_clean 18 = .ok (.ireturn, 1) := by decide +kernel
theorem dX6_read_0 : decode cX6_read 0 = .ok (.aload_n 0, 1) := by decide +kernel
theorem dX6_read_1 : decode cX6_read 1 = .ok (.iload_n 1, 1) := by decide +kernel
theorem dX6_read_2 : decode cX6_read 2 = .ok (.invokevirtual 52, 3) := by decide +kernel
theorem dX6_read_5 : decode cX6_read 5 = .ok (.astore_n 2, 1) := by decide +kernel
theorem dX6_read_6 : decode cX6_read 6 = .ok (.aload_n 2, 1) := by decide +kernel
theorem dX6_read_7 : decode cX6_read 7 = .ok (.getfield 72, 3) := by decide +kernel
theorem dX6_read_10 : decode cX6_read 10 = .ok (.getfield 82, 3) := by decide +kernel
theorem dX6_read_13 : decode cX6_read 13 = .ok (.ifCond .ne 13, 3) := by decide +kernel
theorem dX6_read_16 : decode cX6_read 16 = .ok (.new 38, 3) := by decide +kernel
theorem dX6_read_19 : decode cX6_read 19 = .ok (.dup, 1) := by decide +kernel
theorem dX6_read_20 : decode cX6_read 20 = .ok (.ldc 124, 2) := by decide +kernel
theorem dX6_read_22 : decode cX6_read 22 = .ok (.invokespecial 42, 3) := by decide +kernel
theorem dX6_read_25 : decode cX6_read 25 = .ok (.athrow, 1) := by decide +kernel
theorem dX6_read_26 : decode cX6_read 26 = .ok (.aload_n 0, 1) := by decide +kernel
theorem dX6_read_27 : decode cX6_read 27 = .ok (.aload_n 2, 1) := by decide +kernel
theorem dX6_read_28 : decode cX6_read 28 = .ok (.aload_n 0, 1) := by decide +kernel
theorem dX6_read_29 : decode cX6_read 29 = .ok (.getfield 22, 3) := by decide +kernel
theorem dX6_read_32 : decode cX6_read 32 = .ok (.invokevirtual 126, 3) := by decide +kernel
theorem dX6_read_35 : decode cX6_read 35 = .ok (.putfield 22, 3) := by decide +kernel
theorem dX6_read_38 : decode cX6_read 38 = .ok (.aload_n 2, 1) := by decide +kernel
theorem dX6_read_39 : decode cX6_read 39 = .ok (.invokevirtual 129, 3) := by decide +kernel
theorem dX6_read_42 : decode cX6_read 42 = .ok (.aload_n 0, 1) := by decide +kernel
theorem dX6_read_43 : decode cX6_read 43 = .ok (.dup, 1) := by decide +kernel
theorem dX6_read_44 : decode cX6_read 44 = .ok (.getfield 25, 3) := by decide +kernel
theorem dX6_read_47 : decode cX6_read 47 = .ok (.iconst 1, 1) := by decide +kernel
theorem dX6_read_48 : decode cX6_read 48 = .ok (.iadd, 1) := by decide +kernel
theorem dX6_read_49 : decode cX6_read 49 = .ok (.putfield 25, 3) := by decide +kernel
theorem dX6_read_52 : decode cX6_read 52 = .ok (.aload_n 2, 1) := by decide +kernel
theorem dX6_read_53 : decode cX6_read 53 = .ok (.invokevirtual 132, 3) := by decide +kernel
theorem dX6_read_56 : decode cX6_read 56 = .ok (.getfield 136, 3) := by decide +kernel
theorem dX6_read_59 : decode cX6_read 59 = .ok (.getfield 142, 3) := by decide +kernel
theorem dX6_read_62 : decode cX6_read 62 = .ok (.ireturn, 1) := by decide +kernel
theorem dX6_copy_0 : decode cX6_copy 0 = .ok (.aload_n 0, 1) := by decide +kernel
theorem dX6_copy_1 : decode cX6_copy 1 = .ok (.iload_n 1, 1) := by decide +kernel
theorem dX6_copy_2 : decode cX6_copy 2 = .ok (.invokevirtual 52, 3) := by decide +kernel
theorem dX6_copy_5 : decode cX6_copy 5 = .ok (.astore 4, 2) := by decide +kernel
theorem dX6_copy_7 : decode cX6_copy 7 = .ok (.aload_n 0, 1) := by decide +kernel
theorem dX6_copy_8 : decode cX6_copy 8 = .ok (.iload_n 2, 1) := by decide +kernel
theorem dX6_copy_9 : decode cX6_copy 9 = .ok (.invokevirtual 52, 3) := by decide +kernel
theorem dX6_copy_12 : decode cX6_copy 12 = .ok (.astore 5, 2) := by decide +kernel
theorem dX6_copy_14 : decode cX6_copy 14 = .ok (.iload_n 1, 1) := by decide +kernel
theorem dX6_copy_15 : decode cX6_copy 15 = .ok (.iload_n 2, 1) := by decide +kernel
theorem dX6_copy_16 : decode cX6_copy 16 = .ok (.if_icmp .ne 13, 3) := by decide +kernel
theorem dX6_copy_19 : decode cX6_copy 19 = .ok (.new 47, 3) := by decide +kernel
theorem dX6_copy_22 : decode cX6_copy 22 = .ok (.dup, 1) := by decide +kernel
theorem dX6_copy_23 : decode cX6_copy 23 = .ok (.ldc 145, 2) := by decide +kernel
theorem dX6_copy_25 : decode cX6_copy 25 = .ok (.invokespecial 51, 3) := by decide +kernel
theorem dX6_copy_28 : decode cX6_copy 28 = .ok (.athrow, 1) := by decide +kernel
theorem dX6_copy_29 : decode cX6_copy 29 = .ok (.aload 4, 2) := by decide +kernel
theorem dX6_copy_31 : decode cX6_copy 31 = .ok (.getfield 147, 3) := by decide +kernel
theorem dX6_copy_34 : decode cX6_copy 34 = .ok (.ifCond .ne 13, 3) := by decide +kernel
theorem dX6_copy_37 : decode cX6_copy 37 = .ok (.new 38, 3) := by decide +kernel
theorem dX6_copy_40 : decode cX6_copy 40 = .ok (.dup, 1) := by decide +kernel
theorem dX6_copy_41 : decode cX6_copy 41 = .ok (.ldc 150, 2) := by decide +kernel
theorem dX6_copy_43 : decode cX6_copy 43 = .ok (.invokespecial 42, 3) := by decide +kernel
theorem dX6_copy_46 : decode cX6_copy 46 = .ok (.athrow, 1) := by decide +kernel
theorem dX6_copy_47 : decode cX6_copy 47 = .ok (.aload 5, 2) := by decide +kernel
theorem dX6_copy_49 : decode cX6_copy 49 = .ok (.aload 4, 2) := by decide +kernel
theorem dX6_copy_51 : decode cX6_copy 51 = .ok (.getfield 59, 3) := by decide +kernel
theorem dX6_copy_54 : decode cX6_copy 54 = .ok (.invokevirtual 152, 3) := by decide +kernel
theorem dX6_copy_57 : decode cX6_copy 57 = .ok (.iload_n 3, 1) := by decide +kernel
theorem dX6_copy_58 : decode cX6_copy 58 = .ok (.ifCond .eq 26, 3) := by decide +kernel
theorem dX6_copy_61 : decode cX6_copy 61 = .ok (.aload 5, 2) := by decide +kernel
theorem dX6_copy_63 : decode cX6_copy 63 = .ok (.aload 4, 2) := by decide +kernel
theorem dX6_copy_65 : decode cX6_copy 65 = .ok (.getfield 155, 3) := by decide +kernel
theorem dX6_copy_68 : decode cX6_copy 68 = .ok (.invokevirtual 158, 3) := by decide +kernel
theorem dX6_copy_71 : decode cX6_copy 71 = .ok (.aload_n 0, 1) := by decide +kernel
theorem dX6_copy_72 : decode cX6_copy 72 = .ok (.dup, 1) := by decide +kernel
theorem dX6_copy_73 : decode cX6_copy 73 = .ok (.getfield 31, 3) := by decide +kernel
theorem dX6_copy_76 : decode cX6_copy 76 = .ok (.iconst 1, 1) := by decide +kernel
theorem dX6_copy_77 : decode cX6_copy 77 = .ok (.iadd, 1) := by decide +kernel
theorem dX6_copy_78 : decode cX6_copy 78 = .ok (.putfield 31, 3) := by decide +kernel
theorem dX6_copy_81 : decode cX6_copy 81 = .ok (.goto 23, 3) := by decide +kernel
theorem dX6_copy_84 : decode cX6_copy 84 = .ok (.aload 5, 2) := by decide +kernel
theorem dX6_copy_86 : decode cX6_copy 86 = .ok (.aload 4, 2) := by decide +kernel
theorem dX6_copy_88 : decode cX6_copy 88 = .ok (.invokevirtual 162, 3) := by decide +kernel
theorem dX6_copy_91 : decode cX6_copy 91 = .ok (.invokevirtual 166, 3) := by decide +kernel
theorem dX6_copy_94 : decode cX6_copy 94 = .ok (.aload_n 0, 1) := by decide +kernel
theorem dX6_copy_95 : decode cX6_copy 95 = .ok (.dup, 1) := by decide +kernel
theorem dX6_copy_96 : decode cX6_copy 96 = .ok (.getfield 28, 3) := by decide +kernel
theorem dX6_copy_99 : decode cX6_copy 99 = .ok (.iconst 1, 1) := by decide +kernel
theorem dX6_copy_100 : decode cX6_copy 100 = .ok (.iadd, 1) := by decide +kernel
theorem dX6_copy_101 : decode cX6_copy 101 = .ok (.putfield 28, 3) := by decide +kernel
theorem dX6_copy_104 : decode cX6_copy 104 = .ok (.aload 5, 2) := by decide +kernel
theorem dX6_copy_106 : decode cX6_copy 106 = .ok (.invokevirtual 129, 3) := by decide +kernel
theorem dX6_copy_109 : decode cX6_copy 109 = .ok (.aload 5, 2) := by decide +kernel
theorem dX6_copy_111 : decode cX6_copy 111 = .ok (.getfield 72, 3) := by decide +kernel
theorem dX6_copy_114 : decode cX6_copy 114 = .ok (.getfield 82, 3) := by decide +kernel
theorem dX6_copy_117 : decode cX6_copy 117 = .ok (.ireturn, 1) := by decide +kernel
theorem dX6_ofCell_0 : decode cX6_ofCell 0 = .ok (.aload_n 0, 1) := by decide +kernel
theorem dX6_ofCell_1 : decode cX6_ofCell 1 = .ok (.iload_n 1, 1) := by decide +kernel
theorem dX6_ofCell_2 : decode cX6_ofCell 2 = .ok (.invokevirtual 52, 3) := by decide +kernel
theorem dX6_ofCell_5 : decode cX6_ofCell 5 = .ok (.getfield 72, 3) := by decide +kernel
theorem dX6_ofCell_8 : decode cX6_ofCell 8 = .ok (.astore 4, 2) := by decide +kernel
theorem dX6_ofCell_10 : decode cX6_ofCell 10 = .ok (.aload 4, 2) := by decide +kernel
theorem dX6_ofCell_12 : decode cX6_ofCell 12 = .ok (.iload_n 2, 1) := by decide +kernel
theorem dX6_ofCell_13 : decode cX6_ofCell 13 = .ok (.invokestatic 100, 3) := by decide +kernel
theorem dX6_ofCell_16 : decode cX6_ofCell 16 = .ok (.iload_n 3, 1) := by decide +kernel
theorem dX6_ofCell_17 : decode cX6_ofCell 17 = .ok (.iconst 3, 1) := by decide +kernel
theorem dX6_ofCell_18 : decode cX6_ofCell 18 = .ok (.invokestatic 170, 3) := by decide +kernel
theorem dX6_ofCell_21 : decode cX6_ofCell 21 = .ok (.iload_n 3, 1) := by decide +kernel
theorem dX6_ofCell_22 : decode cX6_ofCell 22 = .ok (.tableswitch 55 0 2 #[26, 33, 40], 26) := by decide +kernel
theorem dX6_ofCell_48 : decode cX6_ofCell 48 = .ok (.aload 4, 2) := by decide +kernel
theorem dX6_ofCell_50 : decode cX6_ofCell 50 = .ok (.iload_n 2, 1) := by decide +kernel
theorem dX6_ofCell_51 : decode cX6_ofCell 51 = .ok (.invokevirtual 173, 3) := by decide +kernel
theorem dX6_ofCell_54 : decode cX6_ofCell 54 = .ok (.ireturn, 1) := by decide +kernel
theorem dX6_ofCell_55 : decode cX6_ofCell 55 = .ok (.aload 4, 2) := by decide +kernel
theorem dX6_ofCell_57 : decode cX6_ofCell 57 = .ok (.iload_n 2, 1) := by decide +kernel
theorem dX6_ofCell_58 : decode cX6_ofCell 58 = .ok (.invokevirtual 176, 3) := by decide +kernel
theorem dX6_ofCell_61 : decode cX6_ofCell 61 = .ok (.ireturn, 1) := by decide +kernel
theorem dX6_ofCell_62 : decode cX6_ofCell 62 = .ok (.aload 4, 2) := by decide +kernel
theorem dX6_ofCell_64 : decode cX6_ofCell 64 = .ok (.iload_n 2, 1) := by decide +kernel
theorem dX6_ofCell_65 : decode cX6_ofCell 65 = .ok (.invokevirtual 104, 3) := by decide +kernel
theorem dX6_ofCell_68 : decode cX6_ofCell 68 = .ok (.ifCond .eq 7, 3) := by decide +kernel
theorem dX6_ofCell_71 : decode cX6_ofCell 71 = .ok (.iconst 1, 1) := by decide +kernel
theorem dX6_ofCell_72 : decode cX6_ofCell 72 = .ok (.goto 4, 3) := by decide +kernel
theorem dX6_ofCell_75 : decode cX6_ofCell 75 = .ok (.iconst 0, 1) := by decide +kernel
theorem dX6_ofCell_76 : decode cX6_ofCell 76 = .ok (.ireturn, 1) := by decide +kernel
theorem dX6_ofCell_77 : decode cX6_ofCell 77 = .ok (.aload 4, 2) := by decide +kernel
theorem dX6_ofCell_79 : decode cX6_ofCell 79 = .ok (.iload_n 2, 1) := by decide +kernel
theorem dX6_ofCell_80 : decode cX6_ofCell 80 = .ok (.invokevirtual 179, 3) := by decide +kernel
theorem dX6_ofCell_83 : decode cX6_ofCell 83 = .ok (.ireturn, 1) := by decide +kernel
theorem dX6_ofTrack_0 : decode cX6_ofTrack 0 = .ok (.aload_n 0, 1) := by decide +kernel
theorem dX6_ofTrack_1 : decode cX6_ofTrack 1 = .ok (.iload_n 1, 1) := by decide +kernel
theorem dX6_ofTrack_2 : decode cX6_ofTrack 2 = .ok (.invokevirtual 52, 3) := by decide +kernel
theorem dX6_ofTrack_5 : decode cX6_ofTrack 5 = .ok (.astore_n 3, 1) := by decide +kernel
theorem dX6_ofTrack_6 : decode cX6_ofTrack 6 = .ok (.iload_n 2, 1) := by decide +kernel
theorem dX6_ofTrack_7 : decode cX6_ofTrack 7 = .ok (.bipush 11, 2) := by decide +kernel
theorem dX6_ofTrack_9 : decode cX6_ofTrack 9 = .ok (.invokestatic 170, 3) := by decide +kernel
theorem dX6_ofTrack_12 : decode cX6_ofTrack 12 = .ok (.iload_n 2, 1) := by decide +kernel
theorem dX6_ofTrack_13 : decode cX6_ofTrack 13 = .ok (.tableswitch 140 0 10 #[59, 64, 72, 77, 85, 90, 98, 106, 114, 130, 135], 59) := by decide +kernel
theorem dX6_ofTrack_72 : decode cX6_ofTrack 72 = .ok (.aload_n 3, 1) := by decide +kernel
theorem dX6_ofTrack_73 : decode cX6_ofTrack 73 = .ok (.getfield 59, 3) := by decide +kernel
theorem dX6_ofTrack_76 : decode cX6_ofTrack 76 = .ok (.ireturn, 1) := by decide +kernel
theorem dX6_ofTrack_77 : decode cX6_ofTrack 77 = .ok (.aload_n 3, 1) := by decide +kernel
theorem dX6_ofTrack_78 : decode cX6_ofTrack 78 = .ok (.getfield 72, 3) := by decide +kernel
theorem dX6_ofTrack_81 : decode cX6_ofTrack 81 = .ok (.getfield 82, 3) := by decide +kernel
theorem dX6_ofTrack_84 : decode cX6_ofTrack 84 = .ok (.ireturn, 1) := by decide +kernel
theorem dX6_ofTrack_85 : decode cX6_ofTrack 85 = .ok (.aload_n 3, 1) := by decide +kernel
theorem dX6_ofTrack_86 : decode cX6_ofTrack 86 = .ok (.getfield 147, 3) := by decide +kernel
theorem dX6_ofTrack_89 : decode cX6_ofTrack 89 = .ok (.ireturn, 1) := by decide +kernel
theorem dX6_ofTrack_90 : decode cX6_ofTrack 90 = .ok (.aload_n 3, 1) := by decide +kernel
theorem dX6_ofTrack_91 : decode cX6_ofTrack 91 = .ok (.getfield 155, 3) := by decide +kernel
theorem dX6_ofTrack_94 : decode cX6_ofTrack 94 = .ok (.getfield 142, 3) := by decide +kernel
theorem dX6_ofTrack_97 : decode cX6_ofTrack 97 = .ok (.ireturn, 1) := by decide +kernel
theorem dX6_ofTrack_98 : decode cX6_ofTrack 98 = .ok (.aload_n 3, 1) := by decide +kernel
theorem dX6_ofTrack_99 : decode cX6_ofTrack 99 = .ok (.getfield 182, 3) := by decide +kernel
theorem dX6_ofTrack_102 : decode cX6_ofTrack 102 = .ok (.ireturn, 1) := by decide +kernel
theorem dX6_ofTrack_103 : decode cX6_ofTrack 103 = .ok (.aload_n 3, 1) := by decide +kernel
theorem dX6_ofTrack_104 : decode cX6_ofTrack 104 = .ok (.invokevirtual 162, 3) := by decide +kernel
theorem dX6_ofTrack_107 : decode cX6_ofTrack 107 = .ok (.getfield 185, 3) := by decide +kernel
theorem dX6_ofTrack_110 : decode cX6_ofTrack 110 = .ok (.ireturn, 1) := by decide +kernel
theorem dX6_ofTrack_111 : decode cX6_ofTrack 111 = .ok (.aload_n 3, 1) := by decide +kernel
theorem dX6_ofTrack_112 : decode cX6_ofTrack 112 = .ok (.invokevirtual 162, 3) := by decide +kernel
theorem dX6_ofTrack_115 : decode cX6_ofTrack 115 = .ok (.getfield 190, 3) := by decide +kernel
theorem dX6_ofTrack_118 : decode cX6_ofTrack 118 = .ok (.ireturn, 1) := by decide +kernel
theorem dX6_ofTrack_119 : decode cX6_ofTrack 119 = .ok (.aload_n 3, 1) := by decide +kernel
theorem dX6_ofTrack_120 : decode cX6_ofTrack 120 = .ok (.invokevirtual 162, 3) := by decide +kernel
theorem dX6_ofTrack_123 : decode cX6_ofTrack 123 = .ok (.getfield 193, 3) := by decide +kernel
theorem dX6_ofTrack_126 : decode cX6_ofTrack 126 = .ok (.ireturn, 1) := by decide +kernel
theorem dX6_ofTrack_127 : decode cX6_ofTrack 127 = .ok (.aload_n 3, 1) := by decide +kernel
theorem dX6_ofTrack_128 : decode cX6_ofTrack 128 = .ok (.invokevirtual 162, 3) := by decide +kernel
theorem dX6_ofTrack_131 : decode cX6_ofTrack 131 = .ok (.getfield 196, 3) := by decide +kernel
theorem dX6_ofTrack_134 : decode cX6_ofTrack 134 = .ok (.ifCond .eq 7, 3) := by decide +kernel
theorem dX6_ofTrack_137 : decode cX6_ofTrack 137 = .ok (.iconst 1, 1) := by decide +kernel
theorem dX6_ofTrack_138 : decode cX6_ofTrack 138 = .ok (.goto 4, 3) := by decide +kernel
theorem dX6_ofTrack_141 : decode cX6_ofTrack 141 = .ok (.iconst 0, 1) := by decide +kernel
theorem dX6_ofTrack_142 : decode cX6_ofTrack 142 = .ok (.ireturn, 1) := by decide +kernel
theorem dX6_ofTrack_143 : decode cX6_ofTrack 143 = .ok (.aload_n 3, 1) := by decide +kernel
theorem dX6_ofTrack_144 : decode cX6_ofTrack 144 = .ok (.invokevirtual 200, 3) := by decide +kernel
theorem dX6_ofTrack_147 : decode cX6_ofTrack 147 = .ok (.ireturn, 1) := by decide +kernel
theorem dX6_ofTrack_148 : decode cX6_ofTrack 148 = .ok (.aload_n 3, 1) := by decide +kernel
theorem dX6_ofTrack_149 : decode cX6_ofTrack 149 = .ok (.getfield 204, 3) := by decide +kernel
theorem dX6_ofTrack_152 : decode cX6_ofTrack 152 = .ok (.ireturn, 1) := by decide +kernel
theorem dX6_ofTrack_153 : decode cX6_ofTrack 153 = .ok (.aload_n 3, 1) := by decide +kernel
theorem dX6_ofTrack_154 : decode cX6_ofTrack 154 = .ok (.getfield 72, 3) := by decide +kernel
theorem dX6_ofTrack_157 : decode cX6_ofTrack 157 = .ok (.invokevirtual 205, 3) := by decide +kernel
theorem dX6_ofTrack_160 : decode cX6_ofTrack 160 = .ok (.ireturn, 1) := by decide +kernel
theorem dX6_vote_0 : decode cX6_vote 0 = .ok (.aload_n 0, 1) := by decide +kernel
theorem dX6_vote_1 : decode cX6_vote 1 = .ok (.iload_n 1, 1) := by decide +kernel
theorem dX6_vote_2 : decode cX6_vote 2 = .ok (.invokevirtual 52, 3) := by decide +kernel
theorem dX6_vote_5 : decode cX6_vote 5 = .ok (.getfield 155, 3) := by decide +kernel
theorem dX6_vote_8 : decode cX6_vote 8 = .ok (.astore_n 3, 1) := by decide +kernel
theorem dX6_vote_9 : decode cX6_vote 9 = .ok (.iload_n 2, 1) := by decide +kernel
theorem dX6_vote_10 : decode cX6_vote 10 = .ok (.ifCond .lt 11, 3) := by decide +kernel
theorem dX6_vote_13 : decode cX6_vote 13 = .ok (.iload_n 2, 1) := by decide +kernel
theorem dX6_vote_14 : decode cX6_vote 14 = .ok (.aload_n 3, 1) := by decide +kernel
theorem dX6_vote_15 : decode cX6_vote 15 = .ok (.getfield 142, 3) := by decide +kernel
theorem dX6_vote_18 : decode cX6_vote 18 = .ok (.if_icmp .lt 13, 3) := by decide +kernel
theorem dX6_vote_21 : decode cX6_vote 21 = .ok (.new 208, 3) := by decide +kernel
theorem dX6_vote_24 : decode cX6_vote 24 = .ok (.dup, 1) := by decide +kernel
theorem dX6_vote_25 : decode cX6_vote 25 = .ok (.ldc 210, 2) := by decide +kernel
theorem dX6_vote_27 : decode cX6_vote 27 = .ok (.invokespecial 212, 3) := by decide +kernel
theorem dX6_vote_30 : decode cX6_vote 30 = .ok (.athrow, 1) := by decide +kernel
theorem dX6_vote_31 : decode cX6_vote 31 = .ok (.aload_n 3, 1) := by decide +kernel
theorem dX6_vote_32 : decode cX6_vote 32 = .ok (.iload_n 2, 1) := by decide +kernel
theorem dX6_vote_33 : decode cX6_vote 33 = .ok (.invokevirtual 213, 3) := by decide +kernel
theorem dX6_vote_36 : decode cX6_vote 36 = .ok (.ireturn, 1) := by decide +kernel
theorem dX6_turn_0 : decode cX6_turn 0 = .ok (.aload_n 0, 1) := by decide +kernel
theorem dX6_turn_1 : decode cX6_turn 1 = .ok (.iload_n 1, 1) := by decide +kernel
theorem dX6_turn_2 : decode cX6_turn 2 = .ok (.iload_n 2, 1) := by decide +kernel
theorem dX6_turn_3 : decode cX6_turn 3 = .ok (.invokevirtual 216, 3) := by decide +kernel
theorem dX6_turn_6 : decode cX6_turn 6 = .ok (.getfield 136, 3) := by decide +kernel
theorem dX6_turn_9 : decode cX6_turn 9 = .ok (.astore 4, 2) := by decide +kernel
theorem dX6_turn_11 : decode cX6_turn 11 = .ok (.iload_n 3, 1) := by decide +kernel
theorem dX6_turn_12 : decode cX6_turn 12 = .ok (.ifCond .eq 11, 3) := by decide +kernel
theorem dX6_turn_15 : decode cX6_turn 15 = .ok (.aload 4, 2) := by decide +kernel
theorem dX6_turn_17 : decode cX6_turn 17 = .ok (.getfield 220, 3) := by decide +kernel
theorem dX6_turn_20 : decode cX6_turn 20 = .ok (.goto 8, 3) := by decide +kernel
theorem dX6_turn_23 : decode cX6_turn 23 = .ok (.aload 4, 2) := by decide +kernel
theorem dX6_turn_25 : decode cX6_turn 25 = .ok (.getfield 142, 3) := by decide +kernel
theorem dX6_turn_28 : decode cX6_turn 28 = .ok (.ireturn, 1) := by decide +kernel
theorem dX6_period_0 : decode cX6_period 0 = .ok (.aload_n 0, 1) := by decide +kernel
theorem dX6_period_1 : decode cX6_period 1 = .ok (.iload_n 1, 1) := by decide +kernel
theorem dX6_period_2 : decode cX6_period 2 = .ok (.iload_n 2, 1) := by decide +kernel
theorem dX6_period_3 : decode cX6_period 3 = .ok (.invokevirtual 216, 3) := by decide +kernel
theorem dX6_period_6 : decode cX6_period 6 = .ok (.getfield 223, 3) := by decide +kernel
theorem dX6_period_9 : decode cX6_period 9 = .ok (.dreturn, 1) := by decide +kernel
theorem dX6_ofSector_0 : decode cX6_ofSector 0 = .ok (.aload_n 0, 1) := by decide +kernel
theorem dX6_ofSector_1 : decode cX6_ofSector 1 = .ok (.iload_n 1, 1) := by decide +kernel
theorem dX6_ofSector_2 : decode cX6_ofSector 2 = .ok (.invokevirtual 52, 3) := by decide +kernel
theorem dX6_ofSector_5 : decode cX6_ofSector 5 = .ok (.invokevirtual 162, 3) := by decide +kernel
theorem dX6_ofSector_8 : decode cX6_ofSector 8 = .ok (.astore 4, 2) := by decide +kernel
theorem dX6_ofSector_10 : decode cX6_ofSector 10 = .ok (.iload_n 2, 1) := by decide +kernel
theorem dX6_ofSector_11 : decode cX6_ofSector 11 = .ok (.ifCond .lt 12, 3) := by decide +kernel
theorem dX6_ofSector_14 : decode cX6_ofSector 14 = .ok (.iload_n 2, 1) := by decide +kernel
theorem dX6_ofSector_15 : decode cX6_ofSector 15 = .ok (.aload 4, 2) := by decide +kernel
theorem dX6_ofSector_17 : decode cX6_ofSector 17 = .ok (.getfield 185, 3) := by decide +kernel
theorem dX6_ofSector_20 : decode cX6_ofSector 20 = .ok (.if_icmp .lt 13, 3) := by decide +kernel
theorem dX6_ofSector_23 : decode cX6_ofSector 23 = .ok (.new 208, 3) := by decide +kernel
theorem dX6_ofSector_26 : decode cX6_ofSector 26 = .ok (.dup, 1) := by decide +kernel
theorem dX6_ofSector_27 : decode cX6_ofSector 27 = .ok (.ldc 227, 2) := by decide +kernel
theorem dX6_ofSector_29 : decode cX6_ofSector 29 = .ok (.invokespecial 212, 3) := by decide +kernel
theorem dX6_ofSector_32 : decode cX6_ofSector 32 = .ok (.athrow, 1) := by decide +kernel
theorem dX6_ofSector_33 : decode cX6_ofSector 33 = .ok (.iload_n 3, 1) := by decide +kernel
theorem dX6_ofSector_34 : decode cX6_ofSector 34 = .ok (.bipush 8, 2) := by decide +kernel
theorem dX6_ofSector_36 : decode cX6_ofSector 36 = .ok (.invokestatic 170, 3) := by decide +kernel
theorem dX6_ofSector_39 : decode cX6_ofSector 39 = .ok (.aload 4, 2) := by decide +kernel
theorem dX6_ofSector_41 : decode cX6_ofSector 41 = .ok (.iload_n 2, 1) := by decide +kernel
theorem dX6_ofSector_42 : decode cX6_ofSector 42 = .ok (.iload_n 3, 1) := by decide +kernel
theorem dX6_ofSector_43 : decode cX6_ofSector 43 = .ok (.invokevirtual 229, 3) := by decide +kernel
theorem dX6_ofSector_46 : decode cX6_ofSector 46 = .ok (.ireturn, 1) := by decide +kernel
theorem dX6_many_0 : decode cX6_many 0 = .ok (.iload_n 1, 1) := by decide +kernel
theorem dX6_many_1 : decode cX6_many 1 = .ok (.bipush 6, 2) := by decide +kernel
theorem dX6_many_3 : decode cX6_many 3 = .ok (.invokestatic 170, 3) := by decide +kernel
theorem dX6_many_6 : decode cX6_many 6 = .ok (.iload_n 1, 1) := by decide +kernel
theorem dX6_many_7 : decode cX6_many 7 = .ok (.tableswitch 67 0 5 #[37, 42, 47, 52, 57, 62], 37) := by decide +kernel
theorem dX6_many_44 : decode cX6_many 44 = .ok (.aload_n 0, 1) := by decide +kernel
theorem dX6_many_45 : decode cX6_many 45 = .ok (.getfield 15, 3) := by decide +kernel
theorem dX6_many_48 : decode cX6_many 48 = .ok (.ireturn, 1) := by decide +kernel
theorem dX6_many_49 : decode cX6_many 49 = .ok (.aload_n 0, 1) := by decide +kernel
theorem dX6_many_50 : decode cX6_many 50 = .ok (.getfield 19, 3) := by decide +kernel
theorem dX6_many_53 : decode cX6_many 53 = .ok (.ireturn, 1) := by decide +kernel
theorem dX6_many_54 : decode cX6_many 54 = .ok (.aload_n 0, 1) := by decide +kernel
theorem dX6_many_55 : decode cX6_many 55 = .ok (.getfield 22, 3) := by decide +kernel
theorem dX6_many_58 : decode cX6_many 58 = .ok (.ireturn, 1) := by decide +kernel
theorem dX6_many_59 : decode cX6_many 59 = .ok (.aload_n 0, 1) := by decide +kernel
theorem dX6_many_60 : decode cX6_many 60 = .ok (.getfield 25, 3) := by decide +kernel
theorem dX6_many_63 : decode cX6_many 63 = .ok (.ireturn, 1) := by decide +kernel
theorem dX6_many_64 : decode cX6_many 64 = .ok (.aload_n 0, 1) := by decide +kernel
theorem dX6_many_65 : decode cX6_many 65 = .ok (.invokevirtual 235, 3) := by decide +kernel
theorem dX6_many_68 : decode cX6_many 68 = .ok (.ireturn, 1) := by decide +kernel
theorem dX6_many_69 : decode cX6_many 69 = .ok (.aload_n 0, 1) := by decide +kernel
theorem dX6_many_70 : decode cX6_many 70 = .ok (.getfield 28, 3) := by decide +kernel
theorem dX6_many_73 : decode cX6_many 73 = .ok (.ireturn, 1) := by decide +kernel
theorem dX6_many_74 : decode cX6_many 74 = .ok (.aload_n 0, 1) := by decide +kernel
theorem dX6_many_75 : decode cX6_many 75 = .ok (.getfield 31, 3) := by decide +kernel
theorem dX6_many_78 : decode cX6_many 78 = .ok (.ireturn, 1) := by decide +kernel
theorem dX6_sure_0 : decode cX6_sure 0 = .ok (.aload_n 0, 1) := by decide +kernel
theorem dX6_sure_1 : decode cX6_sure 1 = .ok (.iload_n 1, 1) := by decide +kernel
theorem dX6_sure_2 : decode cX6_sure 2 = .ok (.invokevirtual 52, 3) := by decide +kernel
theorem dX6_sure_5 : decode cX6_sure 5 = .ok (.astore_n 2, 1) := by decide +kernel
theorem dX6_sure_6 : decode cX6_sure 6 = .ok (.aload_n 2, 1) := by decide +kernel
theorem dX6_sure_7 : decode cX6_sure 7 = .ok (.getfield 155, 3) := by decide +kernel
theorem dX6_sure_10 : decode cX6_sure 10 = .ok (.getfield 142, 3) := by decide +kernel
theorem dX6_sure_13 : decode cX6_sure 13 = .ok (.aload_n 2, 1) := by decide +kernel
theorem dX6_sure_14 : decode cX6_sure 14 = .ok (.getfield 182, 3) := by decide +kernel
theorem dX6_sure_17 : decode cX6_sure 17 = .ok (.iadd, 1) := by decide +kernel
theorem dX6_sure_18 : decode cX6_sure 18 = .ok (.istore_n 3, 1) := by decide +kernel
theorem dX6_sure_19 : decode cX6_sure 19 = .ok (.aload_n 2, 1) := by decide +kernel
theorem dX6_sure_20 : decode cX6_sure 20 = .ok (.getfield 147, 3) := by decide +kernel
theorem dX6_sure_23 : decode cX6_sure 23 = .ok (.ifCond .eq 7, 3) := by decide +kernel
theorem dX6_sure_26 : decode cX6_sure 26 = .ok (.iload_n 3, 1) := by decide +kernel
theorem dX6_sure_27 : decode cX6_sure 27 = .ok (.ifCond .ne 5, 3) := by decide +kernel
theorem dX6_sure_30 : decode cX6_sure 30 = .ok (.dconst 0, 1) := by decide +kernel
theorem dX6_sure_31 : decode cX6_sure 31 = .ok (.dreturn, 1) := by decide +kernel
theorem dX6_sure_32 : decode cX6_sure 32 = .ok (.dconst 1, 1) := by decide +kernel
theorem dX6_sure_33 : decode cX6_sure 33 = .ok (.aload_n 2, 1) := by decide +kernel
theorem dX6_sure_34 : decode cX6_sure 34 = .ok (.getfield 182, 3) := by decide +kernel
theorem dX6_sure_37 : decode cX6_sure 37 = .ok (.i2d, 1) := by decide +kernel
theorem dX6_sure_38 : decode cX6_sure 38 = .ok (.iload_n 3, 1) := by decide +kernel
theorem dX6_sure_39 : decode cX6_sure 39 = .ok (.i2d, 1) := by decide +kernel
theorem dX6_sure_40 : decode cX6_sure 40 = .ok (.ddiv, 1) := by decide +kernel
theorem dX6_sure_41 : decode cX6_sure 41 = .ok (.dsub, 1) := by decide +kernel
theorem dX6_sure_42 : decode cX6_sure 42 = .ok (.dreturn, 1) := by decide +kernel
theorem dX6_plainLong_0 : decode cX6_plainLong 0 = .ok (.aload_n 0, 1) := by decide +kernel
theorem dX6_plainLong_1 : decode cX6_plainLong 1 = .ok (.iload_n 1, 1) := by decide +kernel
theorem dX6_plainLong_2 : decode cX6_plainLong 2 = .ok (.invokevirtual 52, 3) := by decide +kernel
theorem dX6_plainLong_5 : decode cX6_plainLong 5 = .ok (.invokevirtual 162, 3) := by decide +kernel
theorem dX6_plainLong_8 : decode cX6_plainLong 8 = .ok (.getfield 238, 3) := by decide +kernel
theorem dX6_plainLong_11 : decode cX6_plainLong 11 = .ok (.ireturn, 1) := by decide +kernel
theorem dX6_wouldLose_0 : decode cX6_wouldLose 0 = .ok (.aload_n 0, 1) := by decide +kernel
theorem dX6_wouldLose_1 : decode cX6_wouldLose 1 = .ok (.iload_n 1, 1) := by decide +kernel
theorem dX6_wouldLose_2 : decode cX6_wouldLose 2 = .ok (.invokevirtual 52, 3) := by decide +kernel
theorem dX6_wouldLose_5 : decode cX6_wouldLose 5 = .ok (.astore_n 2, 1) := by decide +kernel
theorem dX6_wouldLose_6 : decode cX6_wouldLose 6 = .ok (.aload_n 2, 1) := by decide +kernel
theorem dX6_wouldLose_7 : decode cX6_wouldLose 7 = .ok (.invokevirtual 162, 3) := by decide +kernel
theorem dX6_wouldLose_10 : decode cX6_wouldLose 10 = .ok (.getfield 238, 3) := by decide +kernel
theorem dX6_wouldLose_13 : decode cX6_wouldLose 13 = .ok (.sipush 300, 3) := by decide +kernel
theorem dX6_wouldLose_16 : decode cX6_wouldLose 16 = .ok (.if_icmp .le 8, 3) := by decide +kernel
theorem dX6_wouldLose_19 : decode cX6_wouldLose 19 = .ok (.bipush 32, 2) := by decide +kernel
theorem dX6_wouldLose_21 : decode cX6_wouldLose 21 = .ok (.goto 4, 3) := by decide +kernel
theorem dX6_wouldLose_24 : decode cX6_wouldLose 24 = .ok (.iconst 0, 1) := by decide +kernel
theorem dX6_wouldLose_25 : decode cX6_wouldLose 25 = .ok (.istore_n 3, 1) := by decide +kernel
theorem dX6_wouldLose_26 : decode cX6_wouldLose 26 = .ok (.aload_n 2, 1) := by decide +kernel
theorem dX6_wouldLose_27 : decode cX6_wouldLose 27 = .ok (.invokevirtual 200, 3) := by decide +kernel
theorem dX6_wouldLose_30 : decode cX6_wouldLose 30 = .ok (.iload_n 3, 1) := by decide +kernel
theorem dX6_wouldLose_31 : decode cX6_wouldLose 31 = .ok (.iconst (-1), 1) := by decide +kernel
theorem dX6_wouldLose_32 : decode cX6_wouldLose 32 = .ok (.ixor, 1) := by decide +kernel
theorem dX6_wouldLose_33 : decode cX6_wouldLose 33 = .ok (.iand, 1) := by decide +kernel
theorem dX6_wouldLose_34 : decode cX6_wouldLose 34 = .ok (.ireturn, 1) := by decide +kernel
theorem dX6_goodBy_0 : decode cX6_goodBy 0 = .ok (.aload_n 0, 1) := by decide +kernel
theorem dX6_goodBy_1 : decode cX6_goodBy 1 = .ok (.iload_n 1, 1) := by decide +kernel
theorem dX6_goodBy_2 : decode cX6_goodBy 2 = .ok (.invokevirtual 52, 3) := by decide +kernel
theorem dX6_goodBy_5 : decode cX6_goodBy 5 = .ok (.astore_n 3, 1) := by decide +kernel
theorem dX6_goodBy_6 : decode cX6_goodBy 6 = .ok (.iload_n 2, 1) := by decide +kernel
theorem dX6_goodBy_7 : decode cX6_goodBy 7 = .ok (.invokestatic 34, 3) := by decide +kernel
theorem dX6_goodBy_10 : decode cX6_goodBy 10 = .ok (.aload_n 3, 1) := by decide +kernel
theorem dX6_goodBy_11 : decode cX6_goodBy 11 = .ok (.iload_n 2, 1) := by decide +kernel
theorem dX6_goodBy_12 : decode cX6_goodBy 12 = .ok (.invokevirtual 241, 3) := by decide +kernel
theorem dX6_goodBy_15 : decode cX6_goodBy 15 = .ok (.getfield 190, 3) := by decide +kernel
theorem dX6_goodBy_18 : decode cX6_goodBy 18 = .ok (.ireturn, 1) := by decide +kernel
theorem dX6_digest_0 : decode cX6_digest 0 = .ok (.ldc2_w 245, 3) := by decide +kernel
theorem dX6_digest_3 : decode cX6_digest 3 = .ok (.lstore_n 1, 1) := by decide +kernel
theorem dX6_digest_4 : decode cX6_digest 4 = .ok (.iconst 0, 1) := by decide +kernel
theorem dX6_digest_5 : decode cX6_digest 5 = .ok (.istore_n 3, 1) := by decide +kernel
theorem dX6_digest_6 : decode cX6_digest 6 = .ok (.iload_n 3, 1) := by decide +kernel
theorem dX6_digest_7 : decode cX6_digest 7 = .ok (.bipush 6, 2) := by decide +kernel
theorem dX6_digest_9 : decode cX6_digest 9 = .ok (.if_icmp .gt 22, 3) := by decide +kernel
theorem dX6_digest_12 : decode cX6_digest 12 = .ok (.lload_n 1, 1) := by decide +kernel
theorem dX6_digest_13 : decode cX6_digest 13 = .ok (.ldc2_w 247, 3) := by decide +kernel
theorem dX6_digest_16 : decode cX6_digest 16 = .ok (.lmul, 1) := by decide +kernel
theorem dX6_digest_17 : decode cX6_digest 17 = .ok (.aload_n 0, 1) := by decide +kernel
theorem dX6_digest_18 : decode cX6_digest 18 = .ok (.iload_n 3, 1) := by decide +kernel
theorem dX6_digest_19 : decode cX6_digest 19 = .ok (.invokevirtual 249, 3) := by decide +kernel
theorem dX6_digest_22 : decode cX6_digest 22 = .ok (.i2l, 1) := by decide +kernel
theorem dX6_digest_23 : decode cX6_digest 23 = .ok (.ladd, 1) := by decide +kernel
theorem dX6_digest_24 : decode cX6_digest 24 = .ok (.lstore_n 1, 1) := by decide +kernel
theorem dX6_digest_25 : decode cX6_digest 25 = .ok (.iinc 3 1, 3) := by decide +kernel
theorem dX6_digest_28 : decode cX6_digest 28 = .ok (.goto (-22), 3) := by decide +kernel
theorem dX6_digest_31 : decode cX6_digest 31 = .ok (.iconst 0, 1) := by decide +kernel
theorem dX6_digest_32 : decode cX6_digest 32 = .ok (.istore_n 3, 1) := by decide +kernel
theorem dX6_digest_33 : decode cX6_digest 33 = .ok (.iload_n 3, 1) := by decide +kernel
theorem dX6_digest_34 : decode cX6_digest 34 = .ok (.aload_n 0, 1) := by decide +kernel
theorem dX6_digest_35 : decode cX6_digest 35 = .ok (.getfield 15, 3) := by decide +kernel
theorem dX6_digest_38 : decode cX6_digest 38 = .ok (.if_icmp .ge 16, 3) := by decide +kernel
theorem dX6_digest_41 : decode cX6_digest 41 = .ok (.aload_n 0, 1) := by decide +kernel
theorem dX6_digest_42 : decode cX6_digest 42 = .ok (.iload_n 3, 1) := by decide +kernel
theorem dX6_digest_43 : decode cX6_digest 43 = .ok (.lload_n 1, 1) := by decide +kernel
theorem dX6_digest_44 : decode cX6_digest 44 = .ok (.invokevirtual 252, 3) := by decide +kernel
theorem dX6_digest_47 : decode cX6_digest 47 = .ok (.lstore_n 1, 1) := by decide +kernel
theorem dX6_digest_48 : decode cX6_digest 48 = .ok (.iinc 3 1, 3) := by decide +kernel
theorem dX6_digest_51 : decode cX6_digest 51 = .ok (.goto (-18), 3) := by decide +kernel
theorem dX6_digest_54 : decode cX6_digest 54 = .ok (.lload_n 1, 1) := by decide +kernel
theorem dX6_digest_55 : decode cX6_digest 55 = .ok (.lreturn, 1) := by decide +kernel
theorem dX6_digestOfTrack_0 : decode cX6_digestOfTrack 0 = .ok (.lload_n 2, 1) := by decide +kernel
theorem dX6_digestOfTrack_1 : decode cX6_digestOfTrack 1 = .ok (.lstore 4, 2) := by decide +kernel
theorem dX6_digestOfTrack_3 : decode cX6_digestOfTrack 3 = .ok (.iconst 0, 1) := by decide +kernel
theorem dX6_digestOfTrack_4 : decode cX6_digestOfTrack 4 = .ok (.istore 6, 2) := by decide +kernel
theorem dX6_digestOfTrack_6 : decode cX6_digestOfTrack 6 = .ok (.iload 6, 2) := by decide +kernel
theorem dX6_digestOfTrack_8 : decode cX6_digestOfTrack 8 = .ok (.bipush 11, 2) := by decide +kernel
theorem dX6_digestOfTrack_10 : decode cX6_digestOfTrack 10 = .ok (.if_icmp .gt 26, 3) := by decide +kernel
theorem dX6_digestOfTrack_13 : decode cX6_digestOfTrack 13 = .ok (.lload 4, 2) := by decide +kernel
theorem dX6_digestOfTrack_15 : decode cX6_digestOfTrack 15 = .ok (.ldc2_w 247, 3) := by decide +kernel
theorem dX6_digestOfTrack_18 : decode cX6_digestOfTrack 18 = .ok (.lmul, 1) := by decide +kernel
theorem dX6_digestOfTrack_19 : decode cX6_digestOfTrack 19 = .ok (.aload_n 0, 1) := by decide +kernel
theorem dX6_digestOfTrack_20 : decode cX6_digestOfTrack 20 = .ok (.iload_n 1, 1) := by decide +kernel
theorem dX6_digestOfTrack_21 : decode cX6_digestOfTrack 21 = .ok (.iload 6, 2) := by decide +kernel
theorem dX6_digestOfTrack_23 : decode cX6_digestOfTrack 23 = .ok (.invokevirtual 256, 3) := by decide +kernel
theorem dX6_digestOfTrack_26 : decode cX6_digestOfTrack 26 = .ok (.i2l, 1) := by decide +kernel
theorem dX6_digestOfTrack_27 : decode cX6_digestOfTrack 27 = .ok (.ladd, 1) := by decide +kernel
theorem dX6_digestOfTrack_28 : decode cX6_digestOfTrack 28 = .ok (.lstore 4, 2) := by decide +kernel
theorem dX6_digestOfTrack_30 : decode cX6_digestOfTrack 30 = .ok (.iinc 6 1, 3) := by decide +kernel
theorem dX6_digestOfTrack_33 : decode cX6_digestOfTrack 33 = .ok (.goto (-27), 3) := by decide +kernel
theorem dX6_digestOfTrack_36 : decode cX6_digestOfTrack 36 = .ok (.aload_n 0, 1) := by decide +kernel
theorem dX6_digestOfTrack_37 : decode cX6_digestOfTrack 37 = .ok (.iload_n 1, 1) := by decide +kernel
theorem dX6_digestOfTrack_38 : decode cX6_digestOfTrack 38 = .ok (.invokevirtual 52, 3) := by decide +kernel
theorem dX6_digestOfTrack_41 : decode cX6_digestOfTrack 41 = .ok (.getfield 147, 3) := by decide +kernel
theorem dX6_digestOfTrack_44 : decode cX6_digestOfTrack 44 = .ok (.istore 6, 2) := by decide +kernel
theorem dX6_digestOfTrack_46 : decode cX6_digestOfTrack 46 = .ok (.iconst 0, 1) := by decide +kernel
theorem dX6_digestOfTrack_47 : decode cX6_digestOfTrack 47 = .ok (.istore 7, 2) := by decide +kernel
theorem dX6_digestOfTrack_49 : decode cX6_digestOfTrack 49 = .ok (.iload 7, 2) := by decide +kernel
theorem dX6_digestOfTrack_51 : decode cX6_digestOfTrack 51 = .ok (.iload 6, 2) := by decide +kernel
theorem dX6_digestOfTrack_53 : decode cX6_digestOfTrack 53 = .ok (.if_icmp .ge 45, 3) := by decide +kernel
theorem dX6_digestOfTrack_56 : decode cX6_digestOfTrack 56 = .ok (.lload 4, 2) := by decide +kernel
theorem dX6_digestOfTrack_58 : decode cX6_digestOfTrack 58 = .ok (.ldc2_w 247, 3) := by decide +kernel
theorem dX6_digestOfTrack_61 : decode cX6_digestOfTrack 61 = .ok (.lmul, 1) := by decide +kernel
theorem dX6_digestOfTrack_62 : decode cX6_digestOfTrack 62 = .ok (.aload_n 0, 1) := by decide +kernel
theorem dX6_digestOfTrack_63 : decode cX6_digestOfTrack 63 = .ok (.iload_n 1, 1) := by decide +kernel
theorem dX6_digestOfTrack_64 : decode cX6_digestOfTrack 64 = .ok (.iload 7, 2) := by decide +kernel
theorem dX6_digestOfTrack_66 : decode cX6_digestOfTrack 66 = .ok (.iconst 1, 1) := by decide +kernel
theorem dX6_digestOfTrack_67 : decode cX6_digestOfTrack 67 = .ok (.invokevirtual 259, 3) := by decide +kernel
theorem dX6_digestOfTrack_70 : decode cX6_digestOfTrack 70 = .ok (.i2l, 1) := by decide +kernel
theorem dX6_digestOfTrack_71 : decode cX6_digestOfTrack 71 = .ok (.ladd, 1) := by decide +kernel
theorem dX6_digestOfTrack_72 : decode cX6_digestOfTrack 72 = .ok (.lstore 4, 2) := by decide +kernel
theorem dX6_digestOfTrack_74 : decode cX6_digestOfTrack 74 = .ok (.lload 4, 2) := by decide +kernel
theorem dX6_digestOfTrack_76 : decode cX6_digestOfTrack 76 = .ok (.ldc2_w 247, 3) := by decide +kernel
theorem dX6_digestOfTrack_79 : decode cX6_digestOfTrack 79 = .ok (.lmul, 1) := by decide +kernel
theorem dX6_digestOfTrack_80 : decode cX6_digestOfTrack 80 = .ok (.aload_n 0, 1) := by decide +kernel
theorem dX6_digestOfTrack_81 : decode cX6_digestOfTrack 81 = .ok (.iload_n 1, 1) := by decide +kernel
theorem dX6_digestOfTrack_82 : decode cX6_digestOfTrack 82 = .ok (.iload 7, 2) := by decide +kernel
theorem dX6_digestOfTrack_84 : decode cX6_digestOfTrack 84 = .ok (.iconst 0, 1) := by decide +kernel
theorem dX6_digestOfTrack_85 : decode cX6_digestOfTrack 85 = .ok (.invokevirtual 259, 3) := by decide +kernel
theorem dX6_digestOfTrack_88 : decode cX6_digestOfTrack 88 = .ok (.i2l, 1) := by decide +kernel
theorem dX6_digestOfTrack_89 : decode cX6_digestOfTrack 89 = .ok (.ladd, 1) := by decide +kernel
theorem dX6_digestOfTrack_90 : decode cX6_digestOfTrack 90 = .ok (.lstore 4, 2) := by decide +kernel
theorem dX6_digestOfTrack_92 : decode cX6_digestOfTrack 92 = .ok (.iinc 7 1, 3) := by decide +kernel
theorem dX6_digestOfTrack_95 : decode cX6_digestOfTrack 95 = .ok (.goto (-46), 3) := by decide +kernel
theorem dX6_digestOfTrack_98 : decode cX6_digestOfTrack 98 = .ok (.lload 4, 2) := by decide +kernel
theorem dX6_digestOfTrack_100 : decode cX6_digestOfTrack 100 = .ok (.ldc2_w 247, 3) := by decide +kernel
theorem dX6_digestOfTrack_103 : decode cX6_digestOfTrack 103 = .ok (.lmul, 1) := by decide +kernel
theorem dX6_digestOfTrack_104 : decode cX6_digestOfTrack 104 = .ok (.aload_n 0, 1) := by decide +kernel
theorem dX6_digestOfTrack_105 : decode cX6_digestOfTrack 105 = .ok (.iload_n 1, 1) := by decide +kernel
theorem dX6_digestOfTrack_106 : decode cX6_digestOfTrack 106 = .ok (.invokevirtual 263, 3) := by decide +kernel
theorem dX6_digestOfTrack_109 : decode cX6_digestOfTrack 109 = .ok (.i2l, 1) := by decide +kernel
theorem dX6_digestOfTrack_110 : decode cX6_digestOfTrack 110 = .ok (.ladd, 1) := by decide +kernel
theorem dX6_digestOfTrack_111 : decode cX6_digestOfTrack 111 = .ok (.lstore 4, 2) := by decide +kernel
theorem dX6_digestOfTrack_113 : decode cX6_digestOfTrack 113 = .ok (.lload 4, 2) := by decide +kernel
theorem dX6_digestOfTrack_115 : decode cX6_digestOfTrack 115 = .ok (.ldc2_w 247, 3) := by decide +kernel
theorem dX6_digestOfTrack_118 : decode cX6_digestOfTrack 118 = .ok (.lmul, 1) := by decide +kernel
theorem dX6_digestOfTrack_119 : decode cX6_digestOfTrack 119 = .ok (.aload_n 0, 1) := by decide +kernel
theorem dX6_digestOfTrack_120 : decode cX6_digestOfTrack 120 = .ok (.iload_n 1, 1) := by decide +kernel
theorem dX6_digestOfTrack_121 : decode cX6_digestOfTrack 121 = .ok (.invokevirtual 266, 3) := by decide +kernel
theorem dX6_digestOfTrack_124 : decode cX6_digestOfTrack 124 = .ok (.i2l, 1) := by decide +kernel
theorem dX6_digestOfTrack_125 : decode cX6_digestOfTrack 125 = .ok (.ladd, 1) := by decide +kernel
theorem dX6_digestOfTrack_126 : decode cX6_digestOfTrack 126 = .ok (.lstore 4, 2) := by decide +kernel
theorem dX6_digestOfTrack_128 : decode cX6_digestOfTrack 128 = .ok (.iconst 0, 1) := by decide +kernel
theorem dX6_digestOfTrack_129 : decode cX6_digestOfTrack 129 = .ok (.istore 7, 2) := by decide +kernel
theorem dX6_digestOfTrack_131 : decode cX6_digestOfTrack 131 = .ok (.iload 7, 2) := by decide +kernel
theorem dX6_digestOfTrack_133 : decode cX6_digestOfTrack 133 = .ok (.iconst 2, 1) := by decide +kernel
theorem dX6_digestOfTrack_134 : decode cX6_digestOfTrack 134 = .ok (.if_icmp .gt 26, 3) := by decide +kernel
theorem dX6_digestOfTrack_137 : decode cX6_digestOfTrack 137 = .ok (.lload 4, 2) := by decide +kernel
theorem dX6_digestOfTrack_139 : decode cX6_digestOfTrack 139 = .ok (.ldc2_w 247, 3) := by decide +kernel
theorem dX6_digestOfTrack_142 : decode cX6_digestOfTrack 142 = .ok (.lmul, 1) := by decide +kernel
theorem dX6_digestOfTrack_143 : decode cX6_digestOfTrack 143 = .ok (.aload_n 0, 1) := by decide +kernel
theorem dX6_digestOfTrack_144 : decode cX6_digestOfTrack 144 = .ok (.iload_n 1, 1) := by decide +kernel
theorem dX6_digestOfTrack_145 : decode cX6_digestOfTrack 145 = .ok (.iload 7, 2) := by decide +kernel
theorem dX6_digestOfTrack_147 : decode cX6_digestOfTrack 147 = .ok (.invokevirtual 269, 3) := by decide +kernel
theorem dX6_digestOfTrack_150 : decode cX6_digestOfTrack 150 = .ok (.i2l, 1) := by decide +kernel
theorem dX6_digestOfTrack_151 : decode cX6_digestOfTrack 151 = .ok (.ladd, 1) := by decide +kernel
theorem dX6_digestOfTrack_152 : decode cX6_digestOfTrack 152 = .ok (.lstore 4, 2) := by decide +kernel
theorem dX6_digestOfTrack_154 : decode cX6_digestOfTrack 154 = .ok (.iinc 7 1, 3) := by decide +kernel
theorem dX6_digestOfTrack_157 : decode cX6_digestOfTrack 157 = .ok (.goto (-26), 3) := by decide +kernel
theorem dX6_digestOfTrack_160 : decode cX6_digestOfTrack 160 = .ok (.aload_n 0, 1) := by decide +kernel
theorem dX6_digestOfTrack_161 : decode cX6_digestOfTrack 161 = .ok (.iload_n 1, 1) := by decide +kernel
theorem dX6_digestOfTrack_162 : decode cX6_digestOfTrack 162 = .ok (.lload 4, 2) := by decide +kernel
theorem dX6_digestOfTrack_164 : decode cX6_digestOfTrack 164 = .ok (.invokevirtual 272, 3) := by decide +kernel
theorem dX6_digestOfTrack_167 : decode cX6_digestOfTrack 167 = .ok (.lreturn, 1) := by decide +kernel
theorem dX6_digestOfSectors_0 : decode cX6_digestOfSectors 0 = .ok (.lload_n 2, 1) := by decide +kernel
theorem dX6_digestOfSectors_1 : decode cX6_digestOfSectors 1 = .ok (.lstore 4, 2) := by decide +kernel
theorem dX6_digestOfSectors_3 : decode cX6_digestOfSectors 3 = .ok (.aload_n 0, 1) := by decide +kernel
theorem dX6_digestOfSectors_4 : decode cX6_digestOfSectors 4 = .ok (.iload_n 1, 1) := by decide +kernel
theorem dX6_digestOfSectors_5 : decode cX6_digestOfSectors 5 = .ok (.invokevirtual 52, 3) := by decide +kernel
theorem dX6_digestOfSectors_8 : decode cX6_digestOfSectors 8 = .ok (.invokevirtual 162, 3) := by decide +kernel
theorem dX6_digestOfSectors_11 : decode cX6_digestOfSectors 11 = .ok (.getfield 185, 3) := by decide +kernel
theorem dX6_digestOfSectors_14 : decode cX6_digestOfSectors 14 = .ok (.istore 6, 2) := by decide +kernel
theorem dX6_digestOfSectors_16 : decode cX6_digestOfSectors 16 = .ok (.iconst 0, 1) := by decide +kernel
theorem dX6_digestOfSectors_17 : decode cX6_digestOfSectors 17 = .ok (.istore 7, 2) := by decide +kernel
theorem dX6_digestOfSectors_19 : decode cX6_digestOfSectors 19 = .ok (.iload 7, 2) := by decide +kernel
theorem dX6_digestOfSectors_21 : decode cX6_digestOfSectors 21 = .ok (.iload 6, 2) := by decide +kernel
theorem dX6_digestOfSectors_23 : decode cX6_digestOfSectors 23 = .ok (.if_icmp .ge 44, 3) := by decide +kernel
theorem dX6_digestOfSectors_26 : decode cX6_digestOfSectors 26 = .ok (.iconst 0, 1) := by decide +kernel
theorem dX6_digestOfSectors_27 : decode cX6_digestOfSectors 27 = .ok (.istore 8, 2) := by decide +kernel
theorem dX6_digestOfSectors_29 : decode cX6_digestOfSectors 29 = .ok (.iload 8, 2) := by decide +kernel
theorem dX6_digestOfSectors_31 : decode cX6_digestOfSectors 31 = .ok (.bipush 9, 2) := by decide +kernel
theorem dX6_digestOfSectors_33 : decode cX6_digestOfSectors 33 = .ok (.if_icmp .ge 28, 3) := by decide +kernel
theorem dX6_digestOfSectors_36 : decode cX6_digestOfSectors 36 = .ok (.lload 4, 2) := by decide +kernel
theorem dX6_digestOfSectors_38 : decode cX6_digestOfSectors 38 = .ok (.ldc2_w 247, 3) := by decide +kernel
theorem dX6_digestOfSectors_41 : decode cX6_digestOfSectors 41 = .ok (.lmul, 1) := by decide +kernel
theorem dX6_digestOfSectors_42 : decode cX6_digestOfSectors 42 = .ok (.aload_n 0, 1) := by decide +kernel
theorem dX6_digestOfSectors_43 : decode cX6_digestOfSectors 43 = .ok (.iload_n 1, 1) := by decide +kernel
theorem dX6_digestOfSectors_44 : decode cX6_digestOfSectors 44 = .ok (.iload 7, 2) := by decide +kernel
theorem dX6_digestOfSectors_46 : decode cX6_digestOfSectors 46 = .ok (.iload 8, 2) := by decide +kernel
theorem dX6_digestOfSectors_48 : decode cX6_digestOfSectors 48 = .ok (.invokevirtual 275, 3) := by decide +kernel
theorem dX6_digestOfSectors_51 : decode cX6_digestOfSectors 51 = .ok (.i2l, 1) := by decide +kernel
theorem dX6_digestOfSectors_52 : decode cX6_digestOfSectors 52 = .ok (.ladd, 1) := by decide +kernel
theorem dX6_digestOfSectors_53 : decode cX6_digestOfSectors 53 = .ok (.lstore 4, 2) := by decide +kernel
theorem dX6_digestOfSectors_55 : decode cX6_digestOfSectors 55 = .ok (.iinc 8 1, 3) := by decide +kernel
theorem dX6_digestOfSectors_58 : decode cX6_digestOfSectors 58 = .ok (.goto (-29), 3) := by decide +kernel
theorem dX6_digestOfSectors_61 : decode cX6_digestOfSectors 61 = .ok (.iinc 7 1, 3) := by decide +kernel
theorem dX6_digestOfSectors_64 : decode cX6_digestOfSectors 64 = .ok (.goto (-45), 3) := by decide +kernel
theorem dX6_digestOfSectors_67 : decode cX6_digestOfSectors 67 = .ok (.lload 4, 2) := by decide +kernel
theorem dX6_digestOfSectors_69 : decode cX6_digestOfSectors 69 = .ok (.lreturn, 1) := by decide +kernel
theorem dX6_shedCells_0 : decode cX6_shedCells 0 = .ok (.iconst 0, 1) := by decide +kernel
theorem dX6_shedCells_1 : decode cX6_shedCells 1 = .ok (.istore_n 1, 1) := by decide +kernel
theorem dX6_shedCells_2 : decode cX6_shedCells 2 = .ok (.iconst 0, 1) := by decide +kernel
theorem dX6_shedCells_3 : decode cX6_shedCells 3 = .ok (.istore_n 2, 1) := by decide +kernel
theorem dX6_shedCells_4 : decode cX6_shedCells 4 = .ok (.iload_n 2, 1) := by decide +kernel
theorem dX6_shedCells_5 : decode cX6_shedCells 5 = .ok (.aload_n 0, 1) := by decide +kernel
theorem dX6_shedCells_6 : decode cX6_shedCells 6 = .ok (.getfield 15, 3) := by decide +kernel
theorem dX6_shedCells_9 : decode cX6_shedCells 9 = .ok (.if_icmp .ge 24, 3) := by decide +kernel
theorem dX6_shedCells_12 : decode cX6_shedCells 12 = .ok (.iload_n 1, 1) := by decide +kernel
theorem dX6_shedCells_13 : decode cX6_shedCells 13 = .ok (.aload_n 0, 1) := by decide +kernel
theorem dX6_shedCells_14 : decode cX6_shedCells 14 = .ok (.iload_n 2, 1) := by decide +kernel
theorem dX6_shedCells_15 : decode cX6_shedCells 15 = .ok (.invokevirtual 52, 3) := by decide +kernel
theorem dX6_shedCells_18 : decode cX6_shedCells 18 = .ok (.getfield 72, 3) := by decide +kernel
theorem dX6_shedCells_21 : decode cX6_shedCells 21 = .ok (.iconst 2, 1) := by decide +kernel
theorem dX6_shedCells_22 : decode cX6_shedCells 22 = .ok (.invokevirtual 118, 3) := by decide +kernel
theorem dX6_shedCells_25 : decode cX6_shedCells 25 = .ok (.iadd, 1) := by decide +kernel
theorem dX6_shedCells_26 : decode cX6_shedCells 26 = .ok (.istore_n 1, 1) := by decide +kernel
theorem dX6_shedCells_27 : decode cX6_shedCells 27 = .ok (.iinc 2 1, 3) := by decide +kernel
theorem dX6_shedCells_30 : decode cX6_shedCells 30 = .ok (.goto (-26), 3) := by decide +kernel
theorem dX6_shedCells_33 : decode cX6_shedCells 33 = .ok (.iload_n 1, 1) := by decide +kernel
theorem dX6_shedCells_34 : decode cX6_shedCells 34 = .ok (.ireturn, 1) := by decide +kernel
theorem dX6_existing_0 : decode cX6_existing 0 = .ok (.iload_n 1, 1) := by decide +kernel
theorem dX6_existing_1 : decode cX6_existing 1 = .ok (.ifCond .lt 12, 3) := by decide +kernel
theorem dX6_existing_4 : decode cX6_existing 4 = .ok (.iload_n 1, 1) := by decide +kernel
theorem dX6_existing_5 : decode cX6_existing 5 = .ok (.aload_n 0, 1) := by decide +kernel
theorem dX6_existing_6 : decode cX6_existing 6 = .ok (.getfield 11, 3) := by decide +kernel
theorem dX6_existing_9 : decode cX6_existing 9 = .ok (.arraylength, 1) := by decide +kernel
theorem dX6_existing_10 : decode cX6_existing 10 = .ok (.if_icmp .lt 14, 3) := by decide +kernel
theorem dX6_existing_13 : decode cX6_existing 13 = .ok (.new 208, 3) := by decide +kernel
theorem dX6_existing_16 : decode cX6_existing 16 = .ok (.dup, 1) := by decide +kernel
theorem dX6_existing_17 : decode cX6_existing 17 = .ok (.ldc_w 279, 3) := by decide +kernel
theorem dX6_existing_20 : decode cX6_existing 20 = .ok (.invokespecial 212, 3) := by decide +kernel
theorem dX6_existing_23 : decode cX6_existing 23 = .ok (.athrow, 1) := by decide +kernel
theorem dX6_existing_24 : decode cX6_existing 24 = .ok (.aload_n 0, 1) := by decide +kernel
theorem dX6_existing_25 : decode cX6_existing 25 = .ok (.getfield 11, 3) := by decide +kernel
theorem dX6_existing_28 : decode cX6_existing 28 = .ok (.iload_n 1, 1) := by decide +kernel
theorem dX6_existing_29 : decode cX6_existing 29 = .ok (.aaload, 1) := by decide +kernel
theorem dX6_existing_30 : decode cX6_existing 30 = .ok (.astore_n 2, 1) := by decide +kernel
theorem dX6_existing_31 : decode cX6_existing 31 = .ok (.aload_n 2, 1) := by decide +kernel
theorem dX6_existing_32 : decode cX6_existing 32 = .ok (.ifnonnull 14, 3) := by decide +kernel
theorem dX6_existing_35 : decode cX6_existing 35 = .ok (.new 208, 3) := by decide +kernel
theorem dX6_existing_38 : decode cX6_existing 38 = .ok (.dup, 1) := by decide +kernel
theorem dX6_existing_39 : decode cX6_existing 39 = .ok (.ldc_w 281, 3) := by decide +kernel
theorem dX6_existing_42 : decode cX6_existing 42 = .ok (.invokespecial 212, 3) := by decide +kernel
theorem dX6_existing_45 : decode cX6_existing 45 = .ok (.athrow, 1) := by decide +kernel
theorem dX6_existing_46 : decode cX6_existing 46 = .ok (.aload_n 2, 1) := by decide +kernel
theorem dX6_existing_47 : decode cX6_existing 47 = .ok (.areturn, 1) := by decide +kernel
theorem dX6_existingTurn_0 : decode cX6_existingTurn 0 = .ok (.aload_n 0, 1) := by decide +kernel
theorem dX6_existingTurn_1 : decode cX6_existingTurn 1 = .ok (.iload_n 1, 1) := by decide +kernel
theorem dX6_existingTurn_2 : decode cX6_existingTurn 2 = .ok (.invokevirtual 52, 3) := by decide +kernel
theorem dX6_existingTurn_5 : decode cX6_existingTurn 5 = .ok (.astore_n 3, 1) := by decide +kernel
theorem dX6_existingTurn_6 : decode cX6_existingTurn 6 = .ok (.iload_n 2, 1) := by decide +kernel
theorem dX6_existingTurn_7 : decode cX6_existingTurn 7 = .ok (.ifCond .lt 11, 3) := by decide +kernel
theorem dX6_existingTurn_10 : decode cX6_existingTurn 10 = .ok (.iload_n 2, 1) := by decide +kernel
theorem dX6_existingTurn_11 : decode cX6_existingTurn 11 = .ok (.aload_n 3, 1) := by decide +kernel
theorem dX6_existingTurn_12 : decode cX6_existingTurn 12 = .ok (.getfield 147, 3) := by decide +kernel
theorem dX6_existingTurn_15 : decode cX6_existingTurn 15 = .ok (.if_icmp .lt 14, 3) := by decide +kernel
theorem dX6_existingTurn_18 : decode cX6_existingTurn 18 = .ok (.new 208, 3) := by decide +kernel
theorem dX6_existingTurn_21 : decode cX6_existingTurn 21 = .ok (.dup, 1) := by decide +kernel
theorem dX6_existingTurn_22 : decode cX6_existingTurn 22 = .ok (.ldc_w 283, 3) := by decide +kernel
theorem dX6_existingTurn_25 : decode cX6_existingTurn 25 = .ok (.invokespecial 212, 3) := by decide +kernel
theorem dX6_existingTurn_28 : decode cX6_existingTurn 28 = .ok (.athrow, 1) := by decide +kernel
theorem dX6_existingTurn_29 : decode cX6_existingTurn 29 = .ok (.aload_n 3, 1) := by decide +kernel
theorem dX6_existingTurn_30 : decode cX6_existingTurn 30 = .ok (.iload_n 2, 1) := by decide +kernel
theorem dX6_existingTurn_31 : decode cX6_existingTurn 31 = .ok (.invokevirtual 285, 3) := by decide +kernel
theorem dX6_existingTurn_34 : decode cX6_existingTurn 34 = .ok (.areturn, 1) := by decide +kernel
theorem dX6_requirePlace_0 : decode cX6_requirePlace 0 = .ok (.aload_n 0, 1) := by decide +kernel
theorem dX6_requirePlace_1 : decode cX6_requirePlace 1 = .ok (.iload_n 1, 1) := by decide +kernel
theorem dX6_requirePlace_2 : decode cX6_requirePlace 2 = .ok (.invokevirtual 289, 3) := by decide +kernel
theorem dX6_requirePlace_5 : decode cX6_requirePlace 5 = .ok (.ifCond .ne 14, 3) := by decide +kernel
theorem dX6_requirePlace_8 : decode cX6_requirePlace 8 = .ok (.new 208, 3) := by decide +kernel
theorem dX6_requirePlace_11 : decode cX6_requirePlace 11 = .ok (.dup, 1) := by decide +kernel
theorem dX6_requirePlace_12 : decode cX6_requirePlace 12 = .ok (.ldc_w 292, 3) := by decide +kernel
theorem dX6_requirePlace_15 : decode cX6_requirePlace 15 = .ok (.invokespecial 212, 3) := by decide +kernel
theorem dX6_requirePlace_18 : decode cX6_requirePlace 18 = .ok (.athrow, 1) := by decide +kernel
theorem dX6_requirePlace_19 : decode cX6_requirePlace 19 = .ok (.return_, 1) := by decide +kernel
theorem dX6_requireCode_0 : decode cX6_requireCode 0 = .ok (.iload_n 0, 1) := by decide +kernel
theorem dX6_requireCode_1 : decode cX6_requireCode 1 = .ok (.ifCond .lt 8, 3) := by decide +kernel
theorem dX6_requireCode_4 : decode cX6_requireCode 4 = .ok (.iload_n 0, 1) := by decide +kernel
theorem dX6_requireCode_5 : decode cX6_requireCode 5 = .ok (.iconst 2, 1) := by decide +kernel
theorem dX6_requireCode_6 : decode cX6_requireCode 6 = .ok (.if_icmp .le 14, 3) := by decide +kernel
theorem dX6_requireCode_9 : decode cX6_requireCode 9 = .ok (.new 47, 3) := by decide +kernel
theorem dX6_requireCode_12 : decode cX6_requireCode 12 = .ok (.dup, 1) := by decide +kernel
theorem dX6_requireCode_13 : decode cX6_requireCode 13 = .ok (.ldc_w 294, 3) := by decide +kernel
theorem dX6_requireCode_16 : decode cX6_requireCode 16 = .ok (.invokespecial 51, 3) := by decide +kernel
theorem dX6_requireCode_19 : decode cX6_requireCode 19 = .ok (.athrow, 1) := by decide +kernel
theorem dX6_requireCode_20 : decode cX6_requireCode 20 = .ok (.return_, 1) := by decide +kernel
theorem dX6_requireByte_0 : decode cX6_requireByte 0 = .ok (.iload_n 0, 1) := by decide +kernel
theorem dX6_requireByte_1 : decode cX6_requireByte 1 = .ok (.ifCond .lt 10, 3) := by decide +kernel
theorem dX6_requireByte_4 : decode cX6_requireByte 4 = .ok (.iload_n 0, 1) := by decide +kernel
theorem dX6_requireByte_5 : decode cX6_requireByte 5 = .ok (.sipush 255, 3) := by decide +kernel
theorem dX6_requireByte_8 : decode cX6_requireByte 8 = .ok (.if_icmp .le 14, 3) := by decide +kernel
theorem dX6_requireByte_11 : decode cX6_requireByte 11 = .ok (.new 47, 3) := by decide +kernel
theorem dX6_requireByte_14 : decode cX6_requireByte 14 = .ok (.dup, 1) := by decide +kernel
theorem dX6_requireByte_15 : decode cX6_requireByte 15 = .ok (.ldc_w 296, 3) := by decide +kernel
theorem dX6_requireByte_18 : decode cX6_requireByte 18 = .ok (.invokespecial 51, 3) := by decide +kernel
theorem dX6_requireByte_21 : decode cX6_requireByte 21 = .ok (.athrow, 1) := by decide +kernel
theorem dX6_requireByte_22 : decode cX6_requireByte 22 = .ok (.return_, 1) := by decide +kernel
theorem dX6_requireWhat_0 : decode cX6_requireWhat 0 = .ok (.iload_n 0, 1) := by decide +kernel
theorem dX6_requireWhat_1 : decode cX6_requireWhat 1 = .ok (.ifCond .lt 8, 3) := by decide +kernel
theorem dX6_requireWhat_4 : decode cX6_requireWhat 4 = .ok (.iload_n 0, 1) := by decide +kernel
theorem dX6_requireWhat_5 : decode cX6_requireWhat 5 = .ok (.iload_n 1, 1) := by decide +kernel
theorem dX6_requireWhat_6 : decode cX6_requireWhat 6 = .ok (.if_icmp .le 14, 3) := by decide +kernel
theorem dX6_requireWhat_9 : decode cX6_requireWhat 9 = .ok (.new 47, 3) := by decide +kernel
theorem dX6_requireWhat_12 : decode cX6_requireWhat 12 = .ok (.dup, 1) := by decide +kernel
theorem dX6_requireWhat_13 : decode cX6_requireWhat 13 = .ok (.ldc_w 298, 3) := by decide +kernel
theorem dX6_requireWhat_16 : decode cX6_requireWhat 16 = .ok (.invokespecial 51, 3) := by decide +kernel
theorem dX6_requireWhat_19 : decode cX6_requireWhat 19 = .ok (.athrow, 1) := by decide +kernel
theorem dX6_requireWhat_20 : decode cX6_requireWhat 20 = .ok (.return_, 1) := by decide +kernel
theorem dX6_requireRoom_0 : decode cX6_requireRoom 0 = .ok (.aload_n 0, 1) := by decide +kernel
theorem dX6_requireRoom_1 : decode cX6_requireRoom 1 = .ok (.getfield 72, 3) := by decide +kernel
theorem dX6_requireRoom_4 : decode cX6_requireRoom 4 = .ok (.iload_n 1, 1) := by decide +kernel
theorem dX6_requireRoom_5 : decode cX6_requireRoom 5 = .ok (.invokevirtual 300, 3) := by decide +kernel
theorem dX6_requireRoom_8 : decode cX6_requireRoom 8 = .ok (.ifCond .ne 14, 3) := by decide +kernel
theorem dX6_requireRoom_11 : decode cX6_requireRoom 11 = .ok (.new 38, 3) := by decide +kernel
theorem dX6_requireRoom_14 : decode cX6_requireRoom 14 = .ok (.dup, 1) := by decide +kernel
theorem dX6_requireRoom_15 : decode cX6_requireRoom 15 = .ok (.ldc_w 303, 3) := by decide +kernel
theorem dX6_requireRoom_18 : decode cX6_requireRoom 18 = .ok (.invokespecial 42, 3) := by decide +kernel
theorem dX6_requireRoom_21 : decode cX6_requireRoom 21 = .ok (.athrow, 1) := by decide +kernel
theorem dX6_requireRoom_22 : decode cX6_requireRoom 22 = .ok (.return_, 1) := by decide +kernel
