theorem dX1_init_0 : decode cX1_init 0 = .ok (.aload_n 0, 1) := by decide +kernel
theorem dX1_init_1 : decode cX1_init 1 = .ok (.invokespecial 3, 3) := by decide +kernel
theorem dX1_init_4 : decode cX1_init 4 = .ok (.aload_n 0, 1) := by decide +kernel
theorem dX1_init_5 : decode cX1_init 5 = .ok (.bipush 72, 2) := by decide +kernel
theorem dX1_init_7 : decode cX1_init 7 = .ok (.newarray .int, 2) := by decide +kernel
theorem dX1_init_9 : decode cX1_init 9 = .ok (.putfield 11, 3) := by decide +kernel
theorem dX1_init_12 : decode cX1_init 12 = .ok (.aload_n 0, 1) := by decide +kernel
theorem dX1_init_13 : decode cX1_init 13 = .ok (.bipush 8, 2) := by decide +kernel
theorem dX1_init_15 : decode cX1_init 15 = .ok (.newarray .int, 2) := by decide +kernel
theorem dX1_init_17 : decode cX1_init 17 = .ok (.putfield 15, 3) := by decide +kernel
theorem dX1_init_20 : decode cX1_init 20 = .ok (.aload_n 0, 1) := by decide +kernel
theorem dX1_init_21 : decode cX1_init 21 = .ok (.iconst 0, 1) := by decide +kernel
theorem dX1_init_22 : decode cX1_init 22 = .ok (.putfield 18, 3) := by decide +kernel
theorem dX1_init_25 : decode cX1_init 25 = .ok (.aload_n 0, 1) := by decide +kernel
theorem dX1_init_26 : decode cX1_init 26 = .ok (.iconst 0, 1) := by decide +kernel
theorem dX1_init_27 : decode cX1_init 27 = .ok (.putfield 22, 3) := by decide +kernel
theorem dX1_init_30 : decode cX1_init 30 = .ok (.aload_n 0, 1) := by decide +kernel
theorem dX1_init_31 : decode cX1_init 31 = .ok (.iconst 0, 1) := by decide +kernel
theorem dX1_init_32 : decode cX1_init 32 = .ok (.putfield 25, 3) := by decide +kernel
theorem dX1_init_35 : decode cX1_init 35 = .ok (.aload_n 0, 1) := by decide +kernel
theorem dX1_init_36 : decode cX1_init 36 = .ok (.iconst 0, 1) := by decide +kernel
theorem dX1_init_37 : decode cX1_init 37 = .ok (.putfield 28, 3) := by decide +kernel
theorem dX1_init_40 : decode cX1_init 40 = .ok (.aload_n 0, 1) := by decide +kernel
theorem dX1_init_41 : decode cX1_init 41 = .ok (.iconst 0, 1) := by decide +kernel
theorem dX1_init_42 : decode cX1_init 42 = .ok (.putfield 32, 3) := by decide +kernel
theorem dX1_init_45 : decode cX1_init 45 = .ok (.aload_n 0, 1) := by decide +kernel
theorem dX1_init_46 : decode cX1_init 46 = .ok (.iconst 0, 1) := by decide +kernel
theorem dX1_init_47 : decode cX1_init 47 = .ok (.putfield 35, 3) := by decide +kernel
theorem dX1_init_50 : decode cX1_init 50 = .ok (.aload_n 0, 1) := by decide +kernel
theorem dX1_init_51 : decode cX1_init 51 = .ok (.iload_n 1, 1) := by decide +kernel
theorem dX1_init_52 : decode cX1_init 52 = .ok (.putfield 38, 3) := by decide +kernel
theorem dX1_init_55 : decode cX1_init 55 = .ok (.return_, 1) := by decide +kernel
theorem dX2_init_0 : decode cX2_init 0 = .ok (.aload_n 0, 1) := by decide +kernel
theorem dX2_init_1 : decode cX2_init 1 = .ok (.invokespecial 3, 3) := by decide +kernel
theorem dX2_init_4 : decode cX2_init 4 = .ok (.aload_n 0, 1) := by decide +kernel
theorem dX2_init_5 : decode cX2_init 5 = .ok (.sipush 400, 3) := by decide +kernel
theorem dX2_init_8 : decode cX2_init 8 = .ok (.newarray .int, 2) := by decide +kernel
theorem dX2_init_10 : decode cX2_init 10 = .ok (.putfield 9, 3) := by decide +kernel
theorem dX2_init_13 : decode cX2_init 13 = .ok (.aload_n 0, 1) := by decide +kernel
theorem dX2_init_14 : decode cX2_init 14 = .ok (.iconst 0, 1) := by decide +kernel
theorem dX2_init_15 : decode cX2_init 15 = .ok (.putfield 15, 3) := by decide +kernel
theorem dX2_init_18 : decode cX2_init 18 = .ok (.aload_n 0, 1) := by decide +kernel
theorem dX2_init_19 : decode cX2_init 19 = .ok (.iconst 1, 1) := by decide +kernel
theorem dX2_init_20 : decode cX2_init 20 = .ok (.putfield 19, 3) := by decide +kernel
theorem dX2_init_23 : decode cX2_init 23 = .ok (.return_, 1) := by decide +kernel
theorem dX2_empty_0 : decode cX2_empty 0 = .ok (.aload_n 0, 1) := by decide +kernel
theorem dX2_empty_1 : decode cX2_empty 1 = .ok (.iconst 0, 1) := by decide +kernel
theorem dX2_empty_2 : decode cX2_empty 2 = .ok (.putfield 15, 3) := by decide +kernel
theorem dX2_empty_5 : decode cX2_empty 5 = .ok (.aload_n 0, 1) := by decide +kernel
theorem dX2_empty_6 : decode cX2_empty 6 = .ok (.iconst 1, 1) := by decide +kernel
theorem dX2_empty_7 : decode cX2_empty 7 = .ok (.putfield 19, 3) := by decide +kernel
theorem dX2_empty_10 : decode cX2_empty 10 = .ok (.return_, 1) := by decide +kernel
theorem dX2_put_0 : decode cX2_put 0 = .ok (.aload_n 0, 1) := by decide +kernel
theorem dX2_put_1 : decode cX2_put 1 = .ok (.getfield 15, 3) := by decide +kernel
theorem dX2_put_4 : decode cX2_put 4 = .ok (.ifCond .lt 15, 3) := by decide +kernel
theorem dX2_put_7 : decode cX2_put 7 = .ok (.aload_n 0, 1) := by decide +kernel
theorem dX2_put_8 : decode cX2_put 8 = .ok (.getfield 15, 3) := by decide +kernel
theorem dX2_put_11 : decode cX2_put 11 = .ok (.aload_n 0, 1) := by decide +kernel
theorem dX2_put_12 : decode cX2_put 12 = .ok (.getfield 9, 3) := by decide +kernel
theorem dX2_put_15 : decode cX2_put 15 = .ok (.arraylength, 1) := by decide +kernel
theorem dX2_put_16 : decode cX2_put 16 = .ok (.if_icmp .lt 4, 3) := by decide +kernel
theorem dX2_put_19 : decode cX2_put 19 = .ok (.return_, 1) := by decide +kernel
theorem dX2_put_20 : decode cX2_put 20 = .ok (.aload_n 0, 1) := by decide +kernel
theorem dX2_put_21 : decode cX2_put 21 = .ok (.getfield 9, 3) := by decide +kernel
theorem dX2_put_24 : decode cX2_put 24 = .ok (.aload_n 0, 1) := by decide +kernel
theorem dX2_put_25 : decode cX2_put 25 = .ok (.getfield 15, 3) := by decide +kernel
theorem dX2_put_28 : decode cX2_put 28 = .ok (.iload_n 1, 1) := by decide +kernel
theorem dX2_put_29 : decode cX2_put 29 = .ok (.iastore, 1) := by decide +kernel
theorem dX2_put_30 : decode cX2_put 30 = .ok (.aload_n 0, 1) := by decide +kernel
theorem dX2_put_31 : decode cX2_put 31 = .ok (.dup, 1) := by decide +kernel
theorem dX2_put_32 : decode cX2_put 32 = .ok (.getfield 15, 3) := by decide +kernel
theorem dX2_put_35 : decode cX2_put 35 = .ok (.iconst 1, 1) := by decide +kernel
theorem dX2_put_36 : decode cX2_put 36 = .ok (.iadd, 1) := by decide +kernel
theorem dX2_put_37 : decode cX2_put 37 = .ok (.putfield 15, 3) := by decide +kernel
theorem dX2_put_40 : decode cX2_put 40 = .ok (.aload_n 0, 1) := by decide +kernel
theorem dX2_put_41 : decode cX2_put 41 = .ok (.iconst 3, 1) := by decide +kernel
theorem dX2_put_42 : decode cX2_put 42 = .ok (.aload_n 0, 1) := by decide +kernel
theorem dX2_put_43 : decode cX2_put 43 = .ok (.getfield 19, 3) := by decide +kernel
theorem dX2_put_46 : decode cX2_put 46 = .ok (.imul, 1) := by decide +kernel
theorem dX2_put_47 : decode cX2_put 47 = .ok (.iload_n 1, 1) := by decide +kernel
theorem dX2_put_48 : decode cX2_put 48 = .ok (.iadd, 1) := by decide +kernel
theorem dX2_put_49 : decode cX2_put 49 = .ok (.putfield 19, 3) := by decide +kernel
theorem dX2_put_52 : decode cX2_put 52 = .ok (.return_, 1) := by decide +kernel
theorem dX2_at_0 : decode cX2_at 0 = .ok (.iload_n 1, 1) := by decide +kernel
theorem dX2_at_1 : decode cX2_at 1 = .ok (.ifCond .lt 29, 3) := by decide +kernel
theorem dX2_at_4 : decode cX2_at 4 = .ok (.iload_n 1, 1) := by decide +kernel
theorem dX2_at_5 : decode cX2_at 5 = .ok (.aload_n 0, 1) := by decide +kernel
theorem dX2_at_6 : decode cX2_at 6 = .ok (.getfield 15, 3) := by decide +kernel
theorem dX2_at_9 : decode cX2_at 9 = .ok (.if_icmp .ge 21, 3) := by decide +kernel
theorem dX2_at_12 : decode cX2_at 12 = .ok (.iload_n 1, 1) := by decide +kernel
theorem dX2_at_13 : decode cX2_at 13 = .ok (.aload_n 0, 1) := by decide +kernel
theorem dX2_at_14 : decode cX2_at 14 = .ok (.getfield 9, 3) := by decide +kernel
theorem dX2_at_17 : decode cX2_at 17 = .ok (.arraylength, 1) := by decide +kernel
theorem dX2_at_18 : decode cX2_at 18 = .ok (.if_icmp .ge 12, 3) := by decide +kernel
theorem dX2_at_21 : decode cX2_at 21 = .ok (.aload_n 0, 1) := by decide +kernel
theorem dX2_at_22 : decode cX2_at 22 = .ok (.getfield 9, 3) := by decide +kernel
theorem dX2_at_25 : decode cX2_at 25 = .ok (.iload_n 1, 1) := by decide +kernel
theorem dX2_at_26 : decode cX2_at 26 = .ok (.iaload, 1) := by decide +kernel
theorem dX2_at_27 : decode cX2_at 27 = .ok (.goto 4, 3) := by decide +kernel
theorem dX2_at_30 : decode cX2_at 30 = .ok (.iconst 0, 1) := by decide +kernel
theorem dX2_at_31 : decode cX2_at 31 = .ok (.ireturn, 1) := by decide +kernel
theorem dX3_init_0 : decode cX3_init 0 = .ok (.aload_n 0, 1) := by decide +kernel
theorem dX3_init_1 : decode cX3_init 1 = .ok (.invokespecial 3, 3) := by decide +kernel
theorem dX3_init_4 : decode cX3_init 4 = .ok (.aload_n 0, 1) := by decide +kernel
theorem dX3_init_5 : decode cX3_init 5 = .ok (.sipush 400, 3) := by decide +kernel
theorem dX3_init_8 : decode cX3_init 8 = .ok (.newarray .int, 2) := by decide +kernel
theorem dX3_init_10 : decode cX3_init 10 = .ok (.putfield 9, 3) := by decide +kernel
theorem dX3_init_13 : decode cX3_init 13 = .ok (.aload_n 0, 1) := by decide +kernel
theorem dX3_init_14 : decode cX3_init 14 = .ok (.sipush 400, 3) := by decide +kernel
theorem dX3_init_17 : decode cX3_init 17 = .ok (.newarray .int, 2) := by decide +kernel
theorem dX3_init_19 : decode cX3_init 19 = .ok (.putfield 15, 3) := by decide +kernel
theorem dX3_init_22 : decode cX3_init 22 = .ok (.aload_n 0, 1) := by decide +kernel
theorem dX3_init_23 : decode cX3_init 23 = .ok (.sipush 400, 3) := by decide +kernel
theorem dX3_init_26 : decode cX3_init 26 = .ok (.newarray .boolean, 2) := by decide +kernel
theorem dX3_init_28 : decode cX3_init 28 = .ok (.putfield 18, 3) := by decide +kernel
theorem dX3_init_31 : decode cX3_init 31 = .ok (.aload_n 0, 1) := by decide +kernel
theorem dX3_init_32 : decode cX3_init 32 = .ok (.sipush 400, 3) := by decide +kernel
theorem dX3_init_35 : decode cX3_init 35 = .ok (.newarray .int, 2) := by decide +kernel
theorem dX3_init_37 : decode cX3_init 37 = .ok (.putfield 22, 3) := by decide +kernel
theorem dX3_init_40 : decode cX3_init 40 = .ok (.aload_n 0, 1) := by decide +kernel
theorem dX3_init_41 : decode cX3_init 41 = .ok (.iconst 0, 1) := by decide +kernel
theorem dX3_init_42 : decode cX3_init 42 = .ok (.putfield 25, 3) := by decide +kernel
theorem dX3_init_45 : decode cX3_init 45 = .ok (.aload_n 0, 1) := by decide +kernel
theorem dX3_init_46 : decode cX3_init 46 = .ok (.iconst 0, 1) := by decide +kernel
theorem dX3_init_47 : decode cX3_init 47 = .ok (.putfield 29, 3) := by decide +kernel
theorem dX3_init_50 : decode cX3_init 50 = .ok (.return_, 1) := by decide +kernel
theorem dX4_init_0 : decode cX4_init 0 = .ok (.aload_n 0, 1) := by decide +kernel
theorem dX4_init_1 : decode cX4_init 1 = .ok (.invokespecial 3, 3) := by decide +kernel
theorem dX4_init_4 : decode cX4_init 4 = .ok (.aload_n 0, 1) := by decide +kernel
theorem dX4_init_5 : decode cX4_init 5 = .ok (.new 9, 3) := by decide +kernel
theorem dX4_init_8 : decode cX4_init 8 = .ok (.dup, 1) := by decide +kernel
theorem dX4_init_9 : decode cX4_init 9 = .ok (.invokespecial 11, 3) := by decide +kernel
theorem dX4_init_12 : decode cX4_init 12 = .ok (.putfield 12, 3) := by decide +kernel
theorem dX4_init_15 : decode cX4_init 15 = .ok (.aload_n 0, 1) := by decide +kernel
theorem dX4_init_16 : decode cX4_init 16 = .ok (.new 18, 3) := by decide +kernel
theorem dX4_init_19 : decode cX4_init 19 = .ok (.dup, 1) := by decide +kernel
theorem dX4_init_20 : decode cX4_init 20 = .ok (.invokespecial 20, 3) := by decide +kernel
theorem dX4_init_23 : decode cX4_init 23 = .ok (.putfield 21, 3) := by decide +kernel
theorem dX4_init_26 : decode cX4_init 26 = .ok (.aload_n 0, 1) := by decide +kernel
theorem dX4_init_27 : decode cX4_init 27 = .ok (.new 25, 3) := by decide +kernel
theorem dX4_init_30 : decode cX4_init 30 = .ok (.dup, 1) := by decide +kernel
theorem dX4_init_31 : decode cX4_init 31 = .ok (.iconst 1, 1) := by decide +kernel
theorem dX4_init_32 : decode cX4_init 32 = .ok (.invokespecial 29, 3) := by decide +kernel
theorem dX4_init_35 : decode cX4_init 35 = .ok (.putfield 32, 3) := by decide +kernel
theorem dX4_init_38 : decode cX4_init 38 = .ok (.aload_n 0, 1) := by decide +kernel
theorem dX4_init_39 : decode cX4_init 39 = .ok (.new 25, 3) := by decide +kernel
theorem dX4_init_42 : decode cX4_init 42 = .ok (.dup, 1) := by decide +kernel
theorem dX4_init_43 : decode cX4_init 43 = .ok (.iconst 2, 1) := by decide +kernel
theorem dX4_init_44 : decode cX4_init 44 = .ok (.invokespecial 29, 3) := by decide +kernel
theorem dX4_init_47 : decode cX4_init 47 = .ok (.putfield 36, 3) := by decide +kernel
theorem dX4_init_50 : decode cX4_init 50 = .ok (.aload_n 0, 1) := by decide +kernel
theorem dX4_init_51 : decode cX4_init 51 = .ok (.new 39, 3) := by decide +kernel
theorem dX4_init_54 : decode cX4_init 54 = .ok (.dup, 1) := by decide +kernel
theorem dX4_init_55 : decode cX4_init 55 = .ok (.invokespecial 41, 3) := by decide +kernel
theorem dX4_init_58 : decode cX4_init 58 = .ok (.putfield 42, 3) := by decide +kernel
theorem dX4_init_61 : decode cX4_init 61 = .ok (.aload_n 0, 1) := by decide +kernel
theorem dX4_init_62 : decode cX4_init 62 = .ok (.new 39, 3) := by decide +kernel
theorem dX4_init_65 : decode cX4_init 65 = .ok (.dup, 1) := by decide +kernel
theorem dX4_init_66 : decode cX4_init 66 = .ok (.invokespecial 41, 3) := by decide +kernel
theorem dX4_init_69 : decode cX4_init 69 = .ok (.putfield 46, 3) := by decide +kernel
theorem dX4_init_72 : decode cX4_init 72 = .ok (.aload_n 0, 1) := by decide +kernel
theorem dX4_init_73 : decode cX4_init 73 = .ok (.new 39, 3) := by decide +kernel
theorem dX4_init_76 : decode cX4_init 76 = .ok (.dup, 1) := by decide +kernel
theorem dX4_init_77 : decode cX4_init 77 = .ok (.invokespecial 41, 3) := by decide +kernel
theorem dX4_init_80 : decode cX4_init 80 = .ok (.putfield 49, 3) := by decide +kernel
theorem dX4_init_83 : decode cX4_init 83 = .ok (.aload_n 0, 1) := by decide +kernel
theorem dX4_init_84 : decode cX4_init 84 = .ok (.iconst 0, 1) := by decide +kernel
theorem dX4_init_85 : decode cX4_init 85 = .ok (.putfield 52, 3) := by decide +kernel
theorem dX4_init_88 : decode cX4_init 88 = .ok (.aload_n 0, 1) := by decide +kernel
theorem dX4_init_89 : decode cX4_init 89 = .ok (.iconst 0, 1) := by decide +kernel
theorem dX4_init_90 : decode cX4_init 90 = .ok (.putfield 56, 3) := by decide +kernel
theorem dX4_init_93 : decode cX4_init 93 = .ok (.aload_n 0, 1) := by decide +kernel
theorem dX4_init_94 : decode cX4_init 94 = .ok (.iconst 0, 1) := by decide +kernel
theorem dX4_init_95 : decode cX4_init 95 = .ok (.putfield 59, 3) := by decide +kernel
theorem dX4_init_98 : decode cX4_init 98 = .ok (.aload_n 0, 1) := by decide +kernel
theorem dX4_init_99 : decode cX4_init 99 = .ok (.iconst 0, 1) := by decide +kernel
theorem dX4_init_100 : decode cX4_init 100 = .ok (.putfield 62, 3) := by decide +kernel
theorem dX4_init_103 : decode cX4_init 103 = .ok (.aload_n 0, 1) := by decide +kernel
theorem dX4_init_104 : decode cX4_init 104 = .ok (.iload_n 1, 1) := by decide +kernel
theorem dX4_init_105 : decode cX4_init 105 = .ok (.putfield 65, 3) := by decide +kernel
theorem dX4_init_108 : decode cX4_init 108 = .ok (.return_, 1) := by decide +kernel
theorem dX5_init_0 : decode cX5_init 0 = .ok (.aload_n 0, 1) := by decide +kernel
theorem dX5_init_1 : decode cX5_init 1 = .ok (.invokespecial 1, 3) := by decide +kernel
theorem dX5_init_4 : decode cX5_init 4 = .ok (.aload_n 0, 1) := by decide +kernel
theorem dX5_init_5 : decode cX5_init 5 = .ok (.new 7, 3) := by decide +kernel
theorem dX5_init_8 : decode cX5_init 8 = .ok (.dup, 1) := by decide +kernel
theorem dX5_init_9 : decode cX5_init 9 = .ok (.invokespecial 9, 3) := by decide +kernel
theorem dX5_init_12 : decode cX5_init 12 = .ok (.putfield 10, 3) := by decide +kernel
theorem dX5_init_15 : decode cX5_init 15 = .ok (.aload_n 0, 1) := by decide +kernel
theorem dX5_init_16 : decode cX5_init 16 = .ok (.ldc2_w 16, 3) := by decide +kernel
theorem dX5_init_19 : decode cX5_init 19 = .ok (.putfield 18, 3) := by decide +kernel
theorem dX5_init_22 : decode cX5_init 22 = .ok (.return_, 1) := by decide +kernel
theorem dX6_init_0 : decode cX6_init 0 = .ok (.aload_n 0, 1) := by decide +kernel
theorem dX6_init_1 : decode cX6_init 1 = .ok (.invokespecial 1, 3) := by decide +kernel
theorem dX6_init_4 : decode cX6_init 4 = .ok (.aload_n 0, 1) := by decide +kernel
theorem dX6_init_5 : decode cX6_init 5 = .ok (.iconst 4, 1) := by decide +kernel
theorem dX6_init_6 : decode cX6_init 6 = .ok (.anewarray 9, 3) := by decide +kernel
theorem dX6_init_9 : decode cX6_init 9 = .ok (.putfield 11, 3) := by decide +kernel
theorem dX6_init_12 : decode cX6_init 12 = .ok (.aload_n 0, 1) := by decide +kernel
theorem dX6_init_13 : decode cX6_init 13 = .ok (.iconst 0, 1) := by decide +kernel
theorem dX6_init_14 : decode cX6_init 14 = .ok (.putfield 15, 3) := by decide +kernel
theorem dX6_init_17 : decode cX6_init 17 = .ok (.aload_n 0, 1) := by decide +kernel
theorem dX6_init_18 : decode cX6_init 18 = .ok (.bipush 8, 2) := by decide +kernel
theorem dX6_init_20 : decode cX6_init 20 = .ok (.putfield 19, 3) := by decide +kernel
theorem dX6_init_23 : decode cX6_init 23 = .ok (.aload_n 0, 1) := by decide +kernel
theorem dX6_init_24 : decode cX6_init 24 = .ok (.iconst 0, 1) := by decide +kernel
theorem dX6_init_25 : decode cX6_init 25 = .ok (.putfield 22, 3) := by decide +kernel
theorem dX6_init_28 : decode cX6_init 28 = .ok (.aload_n 0, 1) := by decide +kernel
theorem dX6_init_29 : decode cX6_init 29 = .ok (.iconst 0, 1) := by decide +kernel
theorem dX6_init_30 : decode cX6_init 30 = .ok (.putfield 25, 3) := by decide +kernel
theorem dX6_init_33 : decode cX6_init 33 = .ok (.aload_n 0, 1) := by decide +kernel
theorem dX6_init_34 : decode cX6_init 34 = .ok (.iconst 0, 1) := by decide +kernel
theorem dX6_init_35 : decode cX6_init 35 = .ok (.putfield 28, 3) := by decide +kernel
theorem dX6_init_38 : decode cX6_init 38 = .ok (.aload_n 0, 1) := by decide +kernel
theorem dX6_init_39 : decode cX6_init 39 = .ok (.iconst 0, 1) := by decide +kernel
theorem dX6_init_40 : decode cX6_init 40 = .ok (.putfield 31, 3) := by decide +kernel
theorem dX6_init_43 : decode cX6_init 43 = .ok (.return_, 1) := by decide +kernel
theorem dX6_track_0 : decode cX6_track 0 = .ok (.iload_n 1, 1) := by decide +kernel
theorem dX6_track_1 : decode cX6_track 1 = .ok (.invokestatic 34, 3) := by decide +kernel
theorem dX6_track_4 : decode cX6_track 4 = .ok (.aload_n 0, 1) := by decide +kernel
theorem dX6_track_5 : decode cX6_track 5 = .ok (.getfield 15, 3) := by decide +kernel
theorem dX6_track_8 : decode cX6_track 8 = .ok (.istore_n 2, 1) := by decide +kernel
theorem dX6_track_9 : decode cX6_track 9 = .ok (.iload_n 2, 1) := by decide +kernel
theorem dX6_track_10 : decode cX6_track 10 = .ok (.ifCond .lt 12, 3) := by decide +kernel
theorem dX6_track_13 : decode cX6_track 13 = .ok (.iload_n 2, 1) := by decide +kernel
theorem dX6_track_14 : decode cX6_track 14 = .ok (.aload_n 0, 1) := by decide +kernel
theorem dX6_track_15 : decode cX6_track 15 = .ok (.getfield 11, 3) := by decide +kernel
theorem dX6_track_18 : decode cX6_track 18 = .ok (.arraylength, 1) := by decide +kernel
theorem dX6_track_19 : decode cX6_track 19 = .ok (.if_icmp .lt 13, 3) := by decide +kernel
theorem dX6_track_32 : decode cX6_track 32 = .ok (.aload_n 0, 1) := by decide +kernel
theorem dX6_track_33 : decode cX6_track 33 = .ok (.getfield 11, 3) := by decide +kernel
theorem dX6_track_36 : decode cX6_track 36 = .ok (.iload_n 2, 1) := by decide +kernel
theorem dX6_track_37 : decode cX6_track 37 = .ok (.new 9, 3) := by decide +kernel
theorem dX6_track_40 : decode cX6_track 40 = .ok (.dup, 1) := by decide +kernel
theorem dX6_track_41 : decode cX6_track 41 = .ok (.iload_n 1, 1) := by decide +kernel
theorem dX6_track_42 : decode cX6_track 42 = .ok (.invokespecial 45, 3) := by decide +kernel
theorem dX6_track_45 : decode cX6_track 45 = .ok (.aastore, 1) := by decide +kernel
theorem dX6_track_46 : decode cX6_track 46 = .ok (.aload_n 0, 1) := by decide +kernel
theorem dX6_track_47 : decode cX6_track 47 = .ok (.iload_n 2, 1) := by decide +kernel
theorem dX6_track_48 : decode cX6_track 48 = .ok (.iconst 1, 1) := by decide +kernel
theorem dX6_track_49 : decode cX6_track 49 = .ok (.iadd, 1) := by decide +kernel
theorem dX6_track_50 : decode cX6_track 50 = .ok (.putfield 15, 3) := by decide +kernel
theorem dX6_track_53 : decode cX6_track 53 = .ok (.iload_n 2, 1) := by decide +kernel
theorem dX6_track_54 : decode cX6_track 54 = .ok (.ireturn, 1) := by decide +kernel
theorem dX6_speed_0 : decode cX6_speed 0 = .ok (.iload_n 1, 1) := by decide +kernel
theorem dX6_speed_1 : decode cX6_speed 1 = .ok (.bipush 6, 2) := by decide +kernel
theorem dX6_speed_3 : decode cX6_speed 3 = .ok (.if_icmp .lt 9, 3) := by decide +kernel
theorem dX6_speed_6 : decode cX6_speed 6 = .ok (.iload_n 1, 1) := by decide +kernel
theorem dX6_speed_7 : decode cX6_speed 7 = .ok (.bipush 11, 2) := by decide +kernel
theorem dX6_speed_9 : decode cX6_speed 9 = .ok (.if_icmp .le 13, 3) := by decide +kernel
theorem dX6_speed_12 : decode cX6_speed 12 = .ok (.new 47, 3) := by decide +kernel
theorem dX6_speed_15 : decode cX6_speed 15 = .ok (.dup, 1) := by decide +kernel
theorem dX6_speed_16 : decode cX6_speed 16 = .ok (.ldc 49, 2) := by decide +kernel
theorem dX6_speed_18 : decode cX6_speed 18 = .ok (.invokespecial 51, 3) := by decide +kernel
theorem dX6_speed_21 : decode cX6_speed 21 = .ok (.athrow, 1) := by decide +kernel
theorem dX6_speed_22 : decode cX6_speed 22 = .ok (.aload_n 0, 1) := by decide +kernel
theorem dX6_speed_23 : decode cX6_speed 23 = .ok (.getfield 19, 3) := by decide +kernel
theorem dX6_speed_26 : decode cX6_speed 26 = .ok (.istore_n 2, 1) := by decide +kernel
theorem dX6_speed_27 : decode cX6_speed 27 = .ok (.aload_n 0, 1) := by decide +kernel
theorem dX6_speed_28 : decode cX6_speed 28 = .ok (.iload_n 1, 1) := by decide +kernel
theorem dX6_speed_29 : decode cX6_speed 29 = .ok (.putfield 19, 3) := by decide +kernel
theorem dX6_speed_32 : decode cX6_speed 32 = .ok (.iload_n 2, 1) := by decide +kernel
theorem dX6_speed_33 : decode cX6_speed 33 = .ok (.ireturn, 1) := by decide +kernel
theorem dX6_write_0 : decode cX6_write 0 = .ok (.aload_n 0, 1) := by decide +kernel
theorem dX6_write_1 : decode cX6_write 1 = .ok (.iload_n 1, 1) := by decide +kernel
theorem dX6_write_2 : decode cX6_write 2 = .ok (.invokevirtual 52, 3) := by decide +kernel
theorem dX6_mark_0 : decode cX6_mark 0 = .ok (.aload_n 0, 1) := by decide +kernel
theorem dX6_mark_1 : decode cX6_mark 1 = .ok (.iload_n 1, 1) := by decide +kernel
theorem dX6_mark_2 : decode cX6_mark 2 = .ok (.invokevirtual 52, 3) := by decide +kernel
theorem dX6_sector_0 : decode cX6_sector 0 = .ok (.aload_n 0, 1) := by decide +kernel
theorem dX6_sector_1 : decode cX6_sector 1 = .ok (.iload_n 1, 1) := by decide +kernel
theorem dX6_sector_2 : decode cX6_sector 2 = .ok (.invokevirtual 52, 3) := by decide +kernel
theorem dX6_weak_0 : decode cX6_weak 0 = .ok (.aload_n 0, 1) := by decide +kernel
theorem dX6_weak_1 : decode cX6_weak 1 = .ok (.iload_n 1, 1) := by decide +kernel
theorem dX6_weak_2 : decode cX6_weak 2 = .ok (.invokevirtual 52, 3) := by decide +kernel
theorem dX6_dirt_0 : decode cX6_dirt 0 = .ok (.aload_n 0, 1) := by decide +kernel
theorem dX6_dirt_1 : decode cX6_dirt 1 = .ok (.iload_n 1, 1) := by decide +kernel
theorem dX6_dirt_2 : decode cX6_dirt 2 = .ok (.invokevirtual 52, 3) := by decide +kernel
theorem dX6_clean_0 : decode cX6_clean 0 = .ok (.aload_n 0, 1) := by decide +kernel
theorem dX6_clean_1 : decode cX6_clean 1 = .ok (.iload_n 1, 1) := by decide +kernel
theorem dX6_clean_2 : decode cX6_clean 2 = .ok (.invokevirtual 52, 3) := by decide +kernel
theorem dX6_read_0 : decode cX6_read 0 = .ok (.aload_n 0, 1) := by decide +kernel
theorem dX6_read_1 : decode cX6_read 1 = .ok (.iload_n 1, 1) := by decide +kernel
theorem dX6_read_2 : decode cX6_read 2 = .ok (.invokevirtual 52, 3) := by decide +kernel
theorem dX6_copy_0 : decode cX6_copy 0 = .ok (.aload_n 0, 1) := by decide +kernel
theorem dX6_copy_1 : decode cX6_copy 1 = .ok (.iload_n 1, 1) := by decide +kernel
theorem dX6_copy_2 : decode cX6_copy 2 = .ok (.invokevirtual 52, 3) := by decide +kernel
theorem dX6_ofCell_0 : decode cX6_ofCell 0 = .ok (.aload_n 0, 1) := by decide +kernel
theorem dX6_ofCell_1 : decode cX6_ofCell 1 = .ok (.iload_n 1, 1) := by decide +kernel
theorem dX6_ofCell_2 : decode cX6_ofCell 2 = .ok (.invokevirtual 52, 3) := by decide +kernel
theorem dX6_ofTrack_0 : decode cX6_ofTrack 0 = .ok (.aload_n 0, 1) := by decide +kernel
theorem dX6_ofTrack_1 : decode cX6_ofTrack 1 = .ok (.iload_n 1, 1) := by decide +kernel
theorem dX6_ofTrack_2 : decode cX6_ofTrack 2 = .ok (.invokevirtual 52, 3) := by decide +kernel
theorem dX6_vote_0 : decode cX6_vote 0 = .ok (.aload_n 0, 1) := by decide +kernel
theorem dX6_vote_1 : decode cX6_vote 1 = .ok (.iload_n 1, 1) := by decide +kernel
theorem dX6_vote_2 : decode cX6_vote 2 = .ok (.invokevirtual 52, 3) := by decide +kernel
theorem dX6_turn_0 : decode cX6_turn 0 = .ok (.aload_n 0, 1) := by decide +kernel
theorem dX6_turn_1 : decode cX6_turn 1 = .ok (.iload_n 1, 1) := by decide +kernel
theorem dX6_turn_2 : decode cX6_turn 2 = .ok (.iload_n 2, 1) := by decide +kernel
theorem dX6_turn_3 : decode cX6_turn 3 = .ok (.invokevirtual 216, 3) := by decide +kernel
theorem dX6_period_0 : decode cX6_period 0 = .ok (.aload_n 0, 1) := by decide +kernel
theorem dX6_period_1 : decode cX6_period 1 = .ok (.iload_n 1, 1) := by decide +kernel
theorem dX6_period_2 : decode cX6_period 2 = .ok (.iload_n 2, 1) := by decide +kernel
theorem dX6_period_3 : decode cX6_period 3 = .ok (.invokevirtual 216, 3) := by decide +kernel
theorem dX6_ofSector_0 : decode cX6_ofSector 0 = .ok (.aload_n 0, 1) := by decide +kernel
theorem dX6_ofSector_1 : decode cX6_ofSector 1 = .ok (.iload_n 1, 1) := by decide +kernel
theorem dX6_ofSector_2 : decode cX6_ofSector 2 = .ok (.invokevirtual 52, 3) := by decide +kernel
theorem dX6_chain_0 : decode cX6_chain 0 = .ok (.aload_n 0, 1) := by decide +kernel
theorem dX6_chain_1 : decode cX6_chain 1 = .ok (.iload_n 1, 1) := by decide +kernel
theorem dX6_chain_2 : decode cX6_chain 2 = .ok (.invokevirtual 52, 3) := by decide +kernel
theorem dX6_many_0 : decode cX6_many 0 = .ok (.iload_n 1, 1) := by decide +kernel
theorem dX6_many_1 : decode cX6_many 1 = .ok (.bipush 6, 2) := by decide +kernel
theorem dX6_many_3 : decode cX6_many 3 = .ok (.invokestatic 170, 3) := by decide +kernel
theorem dX6_many_6 : decode cX6_many 6 = .ok (.iload_n 1, 1) := by decide +kernel
theorem dX6_many_7 : decode cX6_many 7 = .ok (.tableswitch 67 0 5 #[37, 42, 47, 52, 57, 62], 37) := by decide +kernel
theorem dX6_many_44 : decode cX6_many 44 = .ok (.aload_n 0, 1) := by decide +kernel
theorem dX6_many_45 : decode cX6_many 45 = .ok (.getfield 15, 3) := by decide +kernel
theorem dX6_many_48 : decode cX6_many 48 = .ok (.ireturn, 1) := by decide +kernel
theorem dX6_many_49 : decode cX6_many 49 = .ok (.aload_n 0, 1) := by decide +kernel
theorem dX6_many_50 : decode cX6_many 50 = .ok (.getfield 19, 3) := by decide +kernel
theorem dX6_many_53 : decode cX6_many 53 = .ok (.ireturn, 1) := by decide +kernel
theorem dX6_many_54 : decode cX6_many 54 = .ok (.aload_n 0, 1) := by decide +kernel
theorem dX6_many_55 : decode cX6_many 55 = .ok (.getfield 22, 3) := by decide +kernel
theorem dX6_many_58 : decode cX6_many 58 = .ok (.ireturn, 1) := by decide +kernel
theorem dX6_many_59 : decode cX6_many 59 = .ok (.aload_n 0, 1) := by decide +kernel
theorem dX6_many_60 : decode cX6_many 60 = .ok (.getfield 25, 3) := by decide +kernel
theorem dX6_many_63 : decode cX6_many 63 = .ok (.ireturn, 1) := by decide +kernel
theorem dX6_many_64 : decode cX6_many 64 = .ok (.aload_n 0, 1) := by decide +kernel
theorem dX6_many_65 : decode cX6_many 65 = .ok (.invokevirtual 235, 3) := by decide +kernel
theorem dX6_many_68 : decode cX6_many 68 = .ok (.ireturn, 1) := by decide +kernel
theorem dX6_many_69 : decode cX6_many 69 = .ok (.aload_n 0, 1) := by decide +kernel
theorem dX6_many_70 : decode cX6_many 70 = .ok (.getfield 28, 3) := by decide +kernel
theorem dX6_many_73 : decode cX6_many 73 = .ok (.ireturn, 1) := by decide +kernel
theorem dX6_many_74 : decode cX6_many 74 = .ok (.aload_n 0, 1) := by decide +kernel
theorem dX6_many_75 : decode cX6_many 75 = .ok (.getfield 31, 3) := by decide +kernel
theorem dX6_many_78 : decode cX6_many 78 = .ok (.ireturn, 1) := by decide +kernel
theorem dX6_sure_0 : decode cX6_sure 0 = .ok (.aload_n 0, 1) := by decide +kernel
theorem dX6_sure_1 : decode cX6_sure 1 = .ok (.iload_n 1, 1) := by decide +kernel
theorem dX6_sure_2 : decode cX6_sure 2 = .ok (.invokevirtual 52, 3) := by decide +kernel
theorem dX6_plainLong_0 : decode cX6_plainLong 0 = .ok (.aload_n 0, 1) := by decide +kernel
theorem dX6_plainLong_1 : decode cX6_plainLong 1 = .ok (.iload_n 1, 1) := by decide +kernel
theorem dX6_plainLong_2 : decode cX6_plainLong 2 = .ok (.invokevirtual 52, 3) := by decide +kernel
theorem dX6_wouldLose_0 : decode cX6_wouldLose 0 = .ok (.aload_n 0, 1) := by decide +kernel
theorem dX6_wouldLose_1 : decode cX6_wouldLose 1 = .ok (.iload_n 1, 1) := by decide +kernel
theorem dX6_wouldLose_2 : decode cX6_wouldLose 2 = .ok (.invokevirtual 52, 3) := by decide +kernel
theorem dX6_goodBy_0 : decode cX6_goodBy 0 = .ok (.aload_n 0, 1) := by decide +kernel
theorem dX6_goodBy_1 : decode cX6_goodBy 1 = .ok (.iload_n 1, 1) := by decide +kernel
theorem dX6_goodBy_2 : decode cX6_goodBy 2 = .ok (.invokevirtual 52, 3) := by decide +kernel
theorem dX6_digest_0 : decode cX6_digest 0 = .ok (.ldc2_w 245, 3) := by decide +kernel
theorem dX6_digest_3 : decode cX6_digest 3 = .ok (.lstore_n 1, 1) := by decide +kernel
theorem dX6_digest_4 : decode cX6_digest 4 = .ok (.iconst 0, 1) := by decide +kernel
theorem dX6_digest_5 : decode cX6_digest 5 = .ok (.istore_n 3, 1) := by decide +kernel
theorem dX6_digest_6 : decode cX6_digest 6 = .ok (.iload_n 3, 1) := by decide +kernel
theorem dX6_digest_7 : decode cX6_digest 7 = .ok (.bipush 6, 2) := by decide +kernel
theorem dX6_digest_9 : decode cX6_digest 9 = .ok (.if_icmp .gt 22, 3) := by decide +kernel
theorem dX6_digest_12 : decode cX6_digest 12 = .ok (.lload_n 1, 1) := by decide +kernel
theorem dX6_digest_13 : decode cX6_digest 13 = .ok (.ldc2_w 247, 3) := by decide +kernel
theorem dX6_digest_16 : decode cX6_digest 16 = .ok (.lmul, 1) := by decide +kernel
theorem dX6_digest_17 : decode cX6_digest 17 = .ok (.aload_n 0, 1) := by decide +kernel
theorem dX6_digest_18 : decode cX6_digest 18 = .ok (.iload_n 3, 1) := by decide +kernel
theorem dX6_digest_19 : decode cX6_digest 19 = .ok (.invokevirtual 249, 3) := by decide +kernel
theorem dX6_digest_22 : decode cX6_digest 22 = .ok (.i2l, 1) := by decide +kernel
theorem dX6_digest_23 : decode cX6_digest 23 = .ok (.ladd, 1) := by decide +kernel
theorem dX6_digest_24 : decode cX6_digest 24 = .ok (.lstore_n 1, 1) := by decide +kernel
theorem dX6_digest_25 : decode cX6_digest 25 = .ok (.iinc 3 1, 3) := by decide +kernel
theorem dX6_digest_28 : decode cX6_digest 28 = .ok (.goto (-22), 3) := by decide +kernel
theorem dX6_digest_31 : decode cX6_digest 31 = .ok (.iconst 0, 1) := by decide +kernel
theorem dX6_digest_32 : decode cX6_digest 32 = .ok (.istore_n 3, 1) := by decide +kernel
theorem dX6_digest_33 : decode cX6_digest 33 = .ok (.iload_n 3, 1) := by decide +kernel
theorem dX6_digest_34 : decode cX6_digest 34 = .ok (.aload_n 0, 1) := by decide +kernel
theorem dX6_digest_35 : decode cX6_digest 35 = .ok (.getfield 15, 3) := by decide +kernel
theorem dX6_digest_38 : decode cX6_digest 38 = .ok (.if_icmp .ge 16, 3) := by decide +kernel
theorem dX6_digest_54 : decode cX6_digest 54 = .ok (.lload_n 1, 1) := by decide +kernel
theorem dX6_digest_55 : decode cX6_digest 55 = .ok (.lreturn, 1) := by decide +kernel
theorem dX6_shedCells_0 : decode cX6_shedCells 0 = .ok (.iconst 0, 1) := by decide +kernel
theorem dX6_shedCells_1 : decode cX6_shedCells 1 = .ok (.istore_n 1, 1) := by decide +kernel
theorem dX6_shedCells_2 : decode cX6_shedCells 2 = .ok (.iconst 0, 1) := by decide +kernel
theorem dX6_shedCells_3 : decode cX6_shedCells 3 = .ok (.istore_n 2, 1) := by decide +kernel
theorem dX6_shedCells_4 : decode cX6_shedCells 4 = .ok (.iload_n 2, 1) := by decide +kernel
theorem dX6_shedCells_5 : decode cX6_shedCells 5 = .ok (.aload_n 0, 1) := by decide +kernel
theorem dX6_shedCells_6 : decode cX6_shedCells 6 = .ok (.getfield 15, 3) := by decide +kernel
theorem dX6_shedCells_9 : decode cX6_shedCells 9 = .ok (.if_icmp .ge 24, 3) := by decide +kernel
theorem dX6_shedCells_33 : decode cX6_shedCells 33 = .ok (.iload_n 1, 1) := by decide +kernel
theorem dX6_shedCells_34 : decode cX6_shedCells 34 = .ok (.ireturn, 1) := by decide +kernel
theorem dX6_existing_0 : decode cX6_existing 0 = .ok (.iload_n 1, 1) := by decide +kernel
theorem dX6_existing_1 : decode cX6_existing 1 = .ok (.ifCond .lt 12, 3) := by decide +kernel
theorem dX6_existing_4 : decode cX6_existing 4 = .ok (.iload_n 1, 1) := by decide +kernel
theorem dX6_existing_5 : decode cX6_existing 5 = .ok (.aload_n 0, 1) := by decide +kernel
theorem dX6_existing_6 : decode cX6_existing 6 = .ok (.getfield 11, 3) := by decide +kernel
theorem dX6_existing_9 : decode cX6_existing 9 = .ok (.arraylength, 1) := by decide +kernel
theorem dX6_existing_10 : decode cX6_existing 10 = .ok (.if_icmp .lt 14, 3) := by decide +kernel
theorem dX6_existing_13 : decode cX6_existing 13 = .ok (.new 208, 3) := by decide +kernel
theorem dX6_existing_16 : decode cX6_existing 16 = .ok (.dup, 1) := by decide +kernel
theorem dX6_existing_17 : decode cX6_existing 17 = .ok (.ldc_w 279, 3) := by decide +kernel
theorem dX6_existing_20 : decode cX6_existing 20 = .ok (.invokespecial 212, 3) := by decide +kernel
theorem dX6_existing_23 : decode cX6_existing 23 = .ok (.athrow, 1) := by decide +kernel
theorem dX6_existing_24 : decode cX6_existing 24 = .ok (.aload_n 0, 1) := by decide +kernel
theorem dX6_existing_25 : decode cX6_existing 25 = .ok (.getfield 11, 3) := by decide +kernel
theorem dX6_existing_28 : decode cX6_existing 28 = .ok (.iload_n 1, 1) := by decide +kernel
theorem dX6_existing_29 : decode cX6_existing 29 = .ok (.aaload, 1) := by decide +kernel
theorem dX6_existing_30 : decode cX6_existing 30 = .ok (.astore_n 2, 1) := by decide +kernel
theorem dX6_existing_31 : decode cX6_existing 31 = .ok (.aload_n 2, 1) := by decide +kernel
theorem dX6_existing_32 : decode cX6_existing 32 = .ok (.ifnonnull 14, 3) := by decide +kernel
theorem dX6_existing_35 : decode cX6_existing 35 = .ok (.new 208, 3) := by decide +kernel
theorem dX6_existing_38 : decode cX6_existing 38 = .ok (.dup, 1) := by decide +kernel
theorem dX6_existing_39 : decode cX6_existing 39 = .ok (.ldc_w 281, 3) := by decide +kernel
theorem dX6_existing_42 : decode cX6_existing 42 = .ok (.invokespecial 212, 3) := by decide +kernel
theorem dX6_existing_45 : decode cX6_existing 45 = .ok (.athrow, 1) := by decide +kernel
theorem dX6_existingTurn_0 : decode cX6_existingTurn 0 = .ok (.aload_n 0, 1) := by decide +kernel
theorem dX6_existingTurn_1 : decode cX6_existingTurn 1 = .ok (.iload_n 1, 1) := by decide +kernel
theorem dX6_existingTurn_2 : decode cX6_existingTurn 2 = .ok (.invokevirtual 52, 3) := by decide +kernel
theorem dX6_requireCode_0 : decode cX6_requireCode 0 = .ok (.iload_n 0, 1) := by decide +kernel
theorem dX6_requireCode_1 : decode cX6_requireCode 1 = .ok (.ifCond .lt 8, 3) := by decide +kernel
theorem dX6_requireCode_4 : decode cX6_requireCode 4 = .ok (.iload_n 0, 1) := by decide +kernel
theorem dX6_requireCode_5 : decode cX6_requireCode 5 = .ok (.iconst 2, 1) := by decide +kernel
theorem dX6_requireCode_6 : decode cX6_requireCode 6 = .ok (.if_icmp .le 14, 3) := by decide +kernel
theorem dX6_requireCode_9 : decode cX6_requireCode 9 = .ok (.new 47, 3) := by decide +kernel
theorem dX6_requireCode_12 : decode cX6_requireCode 12 = .ok (.dup, 1) := by decide +kernel
theorem dX6_requireCode_13 : decode cX6_requireCode 13 = .ok (.ldc_w 294, 3) := by decide +kernel
theorem dX6_requireCode_16 : decode cX6_requireCode 16 = .ok (.invokespecial 51, 3) := by decide +kernel
theorem dX6_requireCode_19 : decode cX6_requireCode 19 = .ok (.athrow, 1) := by decide +kernel
theorem dX6_requireCode_20 : decode cX6_requireCode 20 = .ok (.return_, 1) := by decide +kernel
theorem dX6_requireByte_0 : decode cX6_requireByte 0 = .ok (.iload_n 0, 1) := by decide +kernel
theorem dX6_requireByte_1 : decode cX6_requireByte 1 = .ok (.ifCond .lt 10, 3) := by decide +kernel
theorem dX6_requireByte_4 : decode cX6_requireByte 4 = .ok (.iload_n 0, 1) := by decide +kernel
theorem dX6_requireByte_5 : decode cX6_requireByte 5 = .ok (.sipush 255, 3) := by decide +kernel
theorem dX6_requireByte_8 : decode cX6_requireByte 8 = .ok (.if_icmp .le 14, 3) := by decide +kernel
theorem dX6_requireByte_11 : decode cX6_requireByte 11 = .ok (.new 47, 3) := by decide +kernel
theorem dX6_requireByte_14 : decode cX6_requireByte 14 = .ok (.dup, 1) := by decide +kernel
theorem dX6_requireByte_15 : decode cX6_requireByte 15 = .ok (.ldc_w 296, 3) := by decide +kernel
theorem dX6_requireByte_18 : decode cX6_requireByte 18 = .ok (.invokespecial 51, 3) := by decide +kernel
theorem dX6_requireByte_21 : decode cX6_requireByte 21 = .ok (.athrow, 1) := by decide +kernel
theorem dX6_requireByte_22 : decode cX6_requireByte 22 = .ok (.return_, 1) := by decide +kernel
theorem dX6_requireWhat_0 : decode cX6_requireWhat 0 = .ok (.iload_n 0, 1) := by decide +kernel
theorem dX6_requireWhat_1 : decode cX6_requireWhat 1 = .ok (.ifCond .lt 8, 3) := by decide +kernel
theorem dX6_requireWhat_4 : decode cX6_requireWhat 4 = .ok (.iload_n 0, 1) := by decide +kernel
theorem dX6_requireWhat_5 : decode cX6_requireWhat 5 = .ok (.iload_n 1, 1) := by decide +kernel
theorem dX6_requireWhat_6 : decode cX6_requireWhat 6 = .ok (.if_icmp .le 14, 3) := by decide +kernel
theorem dX6_requireWhat_9 : decode cX6_requireWhat 9 = .ok (.new 47, 3) := by decide +kernel
theorem dX6_requireWhat_12 : decode cX6_requireWhat 12 = .ok (.dup, 1) := by decide +kernel
theorem dX6_requireWhat_13 : decode cX6_requireWhat 13 = .ok (.ldc_w 298, 3) := by decide +kernel
theorem dX6_requireWhat_16 : decode cX6_requireWhat 16 = .ok (.invokespecial 51, 3) := by decide +kernel
theorem dX6_requireWhat_19 : decode cX6_requireWhat 19 = .ok (.athrow, 1) := by decide +kernel
theorem dX6_requireWhat_20 : decode cX6_requireWhat 20 = .ok (.return_, 1) := by decide +kernel
theorem dX8_init_0 : decode cX8_init 0 = .ok (.aload_n 0, 1) := by decide +kernel
theorem dX8_init_1 : decode cX8_init 1 = .ok (.invokespecial 3, 3) := by decide +kernel
theorem dX8_init_4 : decode cX8_init 4 = .ok (.aload_n 0, 1) := by decide +kernel
theorem dX8_init_5 : decode cX8_init 5 = .ok (.bipush 16, 2) := by decide +kernel
theorem dX8_init_7 : decode cX8_init 7 = .ok (.newarray .int, 2) := by decide +kernel
theorem dX8_init_9 : decode cX8_init 9 = .ok (.dup, 1) := by decide +kernel
theorem dX8_init_10 : decode cX8_init 10 = .ok (.iconst 0, 1) := by decide +kernel
theorem dX8_init_11 : decode cX8_init 11 = .ok (.bipush 10, 2) := by decide +kernel
theorem dX8_init_13 : decode cX8_init 13 = .ok (.iastore, 1) := by decide +kernel
theorem dX8_init_14 : decode cX8_init 14 = .ok (.dup, 1) := by decide +kernel
theorem dX8_init_15 : decode cX8_init 15 = .ok (.iconst 1, 1) := by decide +kernel
theorem dX8_init_16 : decode cX8_init 16 = .ok (.bipush 11, 2) := by decide +kernel
theorem dX8_init_18 : decode cX8_init 18 = .ok (.iastore, 1) := by decide +kernel
theorem dX8_init_19 : decode cX8_init 19 = .ok (.dup, 1) := by decide +kernel
theorem dX8_init_20 : decode cX8_init 20 = .ok (.iconst 2, 1) := by decide +kernel
theorem dX8_init_21 : decode cX8_init 21 = .ok (.bipush 18, 2) := by decide +kernel
theorem dX8_init_23 : decode cX8_init 23 = .ok (.iastore, 1) := by decide +kernel
theorem dX8_init_24 : decode cX8_init 24 = .ok (.dup, 1) := by decide +kernel
theorem dX8_init_25 : decode cX8_init 25 = .ok (.iconst 3, 1) := by decide +kernel
theorem dX8_init_26 : decode cX8_init 26 = .ok (.bipush 19, 2) := by decide +kernel
theorem dX8_init_28 : decode cX8_init 28 = .ok (.iastore, 1) := by decide +kernel
theorem dX8_init_29 : decode cX8_init 29 = .ok (.dup, 1) := by decide +kernel
theorem dX8_init_30 : decode cX8_init 30 = .ok (.iconst 4, 1) := by decide +kernel
theorem dX8_init_31 : decode cX8_init 31 = .ok (.bipush 14, 2) := by decide +kernel
theorem dX8_init_33 : decode cX8_init 33 = .ok (.iastore, 1) := by decide +kernel
theorem dX8_init_34 : decode cX8_init 34 = .ok (.dup, 1) := by decide +kernel
theorem dX8_init_35 : decode cX8_init 35 = .ok (.iconst 5, 1) := by decide +kernel
theorem dX8_init_36 : decode cX8_init 36 = .ok (.bipush 15, 2) := by decide +kernel
theorem dX8_init_38 : decode cX8_init 38 = .ok (.iastore, 1) := by decide +kernel
theorem dX8_init_39 : decode cX8_init 39 = .ok (.dup, 1) := by decide +kernel
theorem dX8_init_40 : decode cX8_init 40 = .ok (.bipush 6, 2) := by decide +kernel
theorem dX8_init_42 : decode cX8_init 42 = .ok (.bipush 22, 2) := by decide +kernel
theorem dX8_init_44 : decode cX8_init 44 = .ok (.iastore, 1) := by decide +kernel
theorem dX8_init_45 : decode cX8_init 45 = .ok (.dup, 1) := by decide +kernel
theorem dX8_init_46 : decode cX8_init 46 = .ok (.bipush 7, 2) := by decide +kernel
theorem dX8_init_48 : decode cX8_init 48 = .ok (.bipush 23, 2) := by decide +kernel
theorem dX8_init_50 : decode cX8_init 50 = .ok (.iastore, 1) := by decide +kernel
theorem dX8_init_51 : decode cX8_init 51 = .ok (.dup, 1) := by decide +kernel
theorem dX8_init_52 : decode cX8_init 52 = .ok (.bipush 8, 2) := by decide +kernel
theorem dX8_init_54 : decode cX8_init 54 = .ok (.bipush 9, 2) := by decide +kernel
theorem dX8_init_56 : decode cX8_init 56 = .ok (.iastore, 1) := by decide +kernel
theorem dX8_init_57 : decode cX8_init 57 = .ok (.dup, 1) := by decide +kernel
theorem dX8_init_58 : decode cX8_init 58 = .ok (.bipush 9, 2) := by decide +kernel
theorem dX8_init_60 : decode cX8_init 60 = .ok (.bipush 25, 2) := by decide +kernel
theorem dX8_init_62 : decode cX8_init 62 = .ok (.iastore, 1) := by decide +kernel
theorem dX8_init_63 : decode cX8_init 63 = .ok (.dup, 1) := by decide +kernel
theorem dX8_init_64 : decode cX8_init 64 = .ok (.bipush 10, 2) := by decide +kernel
theorem dX8_init_66 : decode cX8_init 66 = .ok (.bipush 26, 2) := by decide +kernel
theorem dX8_init_68 : decode cX8_init 68 = .ok (.iastore, 1) := by decide +kernel
theorem dX8_init_69 : decode cX8_init 69 = .ok (.dup, 1) := by decide +kernel
theorem dX8_init_70 : decode cX8_init 70 = .ok (.bipush 11, 2) := by decide +kernel
theorem dX8_init_72 : decode cX8_init 72 = .ok (.bipush 27, 2) := by decide +kernel
theorem dX8_init_74 : decode cX8_init 74 = .ok (.iastore, 1) := by decide +kernel
theorem dX8_init_75 : decode cX8_init 75 = .ok (.dup, 1) := by decide +kernel
theorem dX8_init_76 : decode cX8_init 76 = .ok (.bipush 12, 2) := by decide +kernel
theorem dX8_init_78 : decode cX8_init 78 = .ok (.bipush 13, 2) := by decide +kernel
theorem dX8_init_80 : decode cX8_init 80 = .ok (.iastore, 1) := by decide +kernel
theorem dX8_init_81 : decode cX8_init 81 = .ok (.dup, 1) := by decide +kernel
theorem dX8_init_82 : decode cX8_init 82 = .ok (.bipush 13, 2) := by decide +kernel
theorem dX8_init_84 : decode cX8_init 84 = .ok (.bipush 29, 2) := by decide +kernel
theorem dX8_init_86 : decode cX8_init 86 = .ok (.iastore, 1) := by decide +kernel
theorem dX8_init_87 : decode cX8_init 87 = .ok (.dup, 1) := by decide +kernel
theorem dX8_init_88 : decode cX8_init 88 = .ok (.bipush 14, 2) := by decide +kernel
theorem dX8_init_90 : decode cX8_init 90 = .ok (.bipush 30, 2) := by decide +kernel
theorem dX8_init_92 : decode cX8_init 92 = .ok (.iastore, 1) := by decide +kernel
theorem dX8_init_93 : decode cX8_init 93 = .ok (.dup, 1) := by decide +kernel
theorem dX8_init_94 : decode cX8_init 94 = .ok (.bipush 15, 2) := by decide +kernel
theorem dX8_init_96 : decode cX8_init 96 = .ok (.bipush 21, 2) := by decide +kernel
theorem dX8_init_98 : decode cX8_init 98 = .ok (.iastore, 1) := by decide +kernel
theorem dX8_init_99 : decode cX8_init 99 = .ok (.putfield 9, 3) := by decide +kernel
theorem dX8_init_102 : decode cX8_init 102 = .ok (.aload_n 0, 1) := by decide +kernel
theorem dX8_init_103 : decode cX8_init 103 = .ok (.sipush 400, 3) := by decide +kernel
theorem dX8_init_106 : decode cX8_init 106 = .ok (.newarray .int, 2) := by decide +kernel
theorem dX8_init_108 : decode cX8_init 108 = .ok (.putfield 15, 3) := by decide +kernel
theorem dX8_init_111 : decode cX8_init 111 = .ok (.aload_n 0, 1) := by decide +kernel
theorem dX8_init_112 : decode cX8_init 112 = .ok (.sipush 400, 3) := by decide +kernel
theorem dX8_init_115 : decode cX8_init 115 = .ok (.newarray .int, 2) := by decide +kernel
theorem dX8_init_117 : decode cX8_init 117 = .ok (.putfield 18, 3) := by decide +kernel
theorem dX8_init_120 : decode cX8_init 120 = .ok (.aload_n 0, 1) := by decide +kernel
theorem dX8_init_121 : decode cX8_init 121 = .ok (.sipush 400, 3) := by decide +kernel
theorem dX8_init_124 : decode cX8_init 124 = .ok (.newarray .boolean, 2) := by decide +kernel
theorem dX8_init_126 : decode cX8_init 126 = .ok (.putfield 21, 3) := by decide +kernel
theorem dX8_init_129 : decode cX8_init 129 = .ok (.aload_n 0, 1) := by decide +kernel
theorem dX8_init_130 : decode cX8_init 130 = .ok (.sipush 400, 3) := by decide +kernel
theorem dX8_init_133 : decode cX8_init 133 = .ok (.newarray .int, 2) := by decide +kernel
theorem dX8_init_135 : decode cX8_init 135 = .ok (.putfield 25, 3) := by decide +kernel
theorem dX8_init_138 : decode cX8_init 138 = .ok (.aload_n 0, 1) := by decide +kernel
theorem dX8_init_139 : decode cX8_init 139 = .ok (.sipush 400, 3) := by decide +kernel
theorem dX8_init_142 : decode cX8_init 142 = .ok (.newarray .int, 2) := by decide +kernel
theorem dX8_init_144 : decode cX8_init 144 = .ok (.putfield 28, 3) := by decide +kernel
theorem dX8_init_147 : decode cX8_init 147 = .ok (.aload_n 0, 1) := by decide +kernel
theorem dX8_init_148 : decode cX8_init 148 = .ok (.new 31, 3) := by decide +kernel
theorem dX8_init_151 : decode cX8_init 151 = .ok (.dup, 1) := by decide +kernel
theorem dX8_init_152 : decode cX8_init 152 = .ok (.invokespecial 33, 3) := by decide +kernel
theorem dX8_init_155 : decode cX8_init 155 = .ok (.putfield 34, 3) := by decide +kernel
theorem dX8_init_158 : decode cX8_init 158 = .ok (.aload_n 0, 1) := by decide +kernel
theorem dX8_init_159 : decode cX8_init 159 = .ok (.iload_n 1, 1) := by decide +kernel
theorem dX8_init_160 : decode cX8_init 160 = .ok (.putfield 38, 3) := by decide +kernel
theorem dX8_init_163 : decode cX8_init 163 = .ok (.return_, 1) := by decide +kernel
theorem dX10_init_0 : decode cX10_init 0 = .ok (.aload_n 0, 1) := by decide +kernel
theorem dX10_init_1 : decode cX10_init 1 = .ok (.invokespecial 1, 3) := by decide +kernel
theorem dX10_init_4 : decode cX10_init 4 = .ok (.aload_n 0, 1) := by decide +kernel
theorem dX10_init_5 : decode cX10_init 5 = .ok (.new 7, 3) := by decide +kernel
theorem dX10_init_8 : decode cX10_init 8 = .ok (.dup, 1) := by decide +kernel
theorem dX10_init_9 : decode cX10_init 9 = .ok (.invokespecial 9, 3) := by decide +kernel
theorem dX10_init_12 : decode cX10_init 12 = .ok (.putfield 10, 3) := by decide +kernel
theorem dX10_init_15 : decode cX10_init 15 = .ok (.aload_n 0, 1) := by decide +kernel
theorem dX10_init_16 : decode cX10_init 16 = .ok (.bipush 8, 2) := by decide +kernel
theorem dX10_init_18 : decode cX10_init 18 = .ok (.putfield 16, 3) := by decide +kernel
theorem dX10_init_21 : decode cX10_init 21 = .ok (.return_, 1) := by decide +kernel
theorem dX10_thrown_0 : decode cX10_thrown 0 = .ok (.aload_n 0, 1) := by decide +kernel
theorem dX10_thrown_1 : decode cX10_thrown 1 = .ok (.getfield 20, 3) := by decide +kernel
theorem dX10_thrown_4 : decode cX10_thrown 4 = .ok (.ireturn, 1) := by decide +kernel
theorem dX10_refuse_0 : decode cX10_refuse 0 = .ok (.aload_n 0, 1) := by decide +kernel
theorem dX10_refuse_1 : decode cX10_refuse 1 = .ok (.iload_n 1, 1) := by decide +kernel
theorem dX10_refuse_2 : decode cX10_refuse 2 = .ok (.putfield 20, 3) := by decide +kernel
theorem dX10_refuse_5 : decode cX10_refuse 5 = .ok (.iconst 0, 1) := by decide +kernel
theorem dX10_refuse_6 : decode cX10_refuse 6 = .ok (.ireturn, 1) := by decide +kernel
theorem dX10_is_0 : decode cX10_is 0 = .ok (.iload_n 0, 1) := by decide +kernel
theorem dX10_is_1 : decode cX10_is 1 = .ok (.iload_n 1, 1) := by decide +kernel
theorem dX10_is_2 : decode cX10_is 2 = .ok (.if_icmp .lt 12, 3) := by decide +kernel
theorem dX10_is_5 : decode cX10_is 5 = .ok (.iload_n 0, 1) := by decide +kernel
theorem dX10_is_6 : decode cX10_is 6 = .ok (.iload_n 2, 1) := by decide +kernel
theorem dX10_is_7 : decode cX10_is 7 = .ok (.if_icmp .gt 7, 3) := by decide +kernel
theorem dX10_is_10 : decode cX10_is 10 = .ok (.iconst 1, 1) := by decide +kernel
theorem dX10_is_11 : decode cX10_is 11 = .ok (.goto 4, 3) := by decide +kernel
theorem dX10_is_14 : decode cX10_is 14 = .ok (.iconst 0, 1) := by decide +kernel
theorem dX10_is_15 : decode cX10_is 15 = .ok (.ireturn, 1) := by decide +kernel
theorem dX10_isTrack_0 : decode cX10_isTrack 0 = .ok (.iload_n 1, 1) := by decide +kernel
theorem dX10_isTrack_1 : decode cX10_isTrack 1 = .ok (.iconst 0, 1) := by decide +kernel
theorem dX10_isTrack_2 : decode cX10_isTrack 2 = .ok (.aload_n 0, 1) := by decide +kernel
theorem dX10_isTrack_3 : decode cX10_isTrack 3 = .ok (.getfield 10, 3) := by decide +kernel
theorem dX10_isTrack_6 : decode cX10_isTrack 6 = .ok (.invokevirtual 23, 3) := by decide +kernel
theorem dX10_isTrack_9 : decode cX10_isTrack 9 = .ok (.iconst 1, 1) := by decide +kernel
theorem dX10_isTrack_10 : decode cX10_isTrack 10 = .ok (.isub, 1) := by decide +kernel
theorem dX10_isTrack_11 : decode cX10_isTrack 11 = .ok (.invokestatic 27, 3) := by decide +kernel
theorem dX10_isTrack_14 : decode cX10_isTrack 14 = .ok (.ireturn, 1) := by decide +kernel
theorem dX10_track_0 : decode cX10_track 0 = .ok (.aload_n 0, 1) := by decide +kernel
theorem dX10_track_1 : decode cX10_track 1 = .ok (.iconst 0, 1) := by decide +kernel
theorem dX10_track_2 : decode cX10_track 2 = .ok (.putfield 20, 3) := by decide +kernel
theorem dX10_track_5 : decode cX10_track 5 = .ok (.iload_n 1, 1) := by decide +kernel
theorem dX10_track_6 : decode cX10_track 6 = .ok (.iconst 0, 1) := by decide +kernel
theorem dX10_track_7 : decode cX10_track 7 = .ok (.iconst 2, 1) := by decide +kernel
theorem dX10_track_8 : decode cX10_track 8 = .ok (.invokestatic 27, 3) := by decide +kernel
theorem dX10_track_11 : decode cX10_track 11 = .ok (.ifCond .ne 9, 3) := by decide +kernel
theorem dX10_track_14 : decode cX10_track 14 = .ok (.aload_n 0, 1) := by decide +kernel
theorem dX10_track_15 : decode cX10_track 15 = .ok (.iconst 1, 1) := by decide +kernel
theorem dX10_track_16 : decode cX10_track 16 = .ok (.invokevirtual 31, 3) := by decide +kernel
theorem dX10_track_19 : decode cX10_track 19 = .ok (.ireturn, 1) := by decide +kernel
theorem dX10_track_20 : decode cX10_track 20 = .ok (.aload_n 0, 1) := by decide +kernel
theorem dX10_track_21 : decode cX10_track 21 = .ok (.getfield 10, 3) := by decide +kernel
theorem dX10_track_24 : decode cX10_track 24 = .ok (.invokevirtual 23, 3) := by decide +kernel
theorem dX10_track_27 : decode cX10_track 27 = .ok (.iconst 4, 1) := by decide +kernel
theorem dX10_track_28 : decode cX10_track 28 = .ok (.if_icmp .ne 9, 3) := by decide +kernel
theorem dX10_track_37 : decode cX10_track 37 = .ok (.aload_n 0, 1) := by decide +kernel
theorem dX10_track_38 : decode cX10_track 38 = .ok (.getfield 10, 3) := by decide +kernel
theorem dX10_track_41 : decode cX10_track 41 = .ok (.new 35, 3) := by decide +kernel
theorem dX10_track_44 : decode cX10_track 44 = .ok (.dup, 1) := by decide +kernel
theorem dX10_track_45 : decode cX10_track 45 = .ok (.iload_n 1, 1) := by decide +kernel
theorem dX10_track_46 : decode cX10_track 46 = .ok (.invokespecial 37, 3) := by decide +kernel
theorem dX10_track_49 : decode cX10_track 49 = .ok (.invokevirtual 40, 3) := by decide +kernel
theorem dX10_track_52 : decode cX10_track 52 = .ok (.pop, 1) := by decide +kernel
theorem dX10_track_53 : decode cX10_track 53 = .ok (.aload_n 0, 1) := by decide +kernel
theorem dX10_track_54 : decode cX10_track 54 = .ok (.getfield 10, 3) := by decide +kernel
theorem dX10_track_57 : decode cX10_track 57 = .ok (.invokevirtual 23, 3) := by decide +kernel
theorem dX10_track_60 : decode cX10_track 60 = .ok (.iconst 1, 1) := by decide +kernel
theorem dX10_track_61 : decode cX10_track 61 = .ok (.isub, 1) := by decide +kernel
theorem dX10_track_62 : decode cX10_track 62 = .ok (.ireturn, 1) := by decide +kernel
theorem dX10_speed_0 : decode cX10_speed 0 = .ok (.aload_n 0, 1) := by decide +kernel
theorem dX10_speed_1 : decode cX10_speed 1 = .ok (.iconst 0, 1) := by decide +kernel
theorem dX10_speed_2 : decode cX10_speed 2 = .ok (.putfield 20, 3) := by decide +kernel
theorem dX10_speed_5 : decode cX10_speed 5 = .ok (.iload_n 1, 1) := by decide +kernel
theorem dX10_speed_6 : decode cX10_speed 6 = .ok (.bipush 6, 2) := by decide +kernel
theorem dX10_speed_8 : decode cX10_speed 8 = .ok (.bipush 11, 2) := by decide +kernel
theorem dX10_speed_10 : decode cX10_speed 10 = .ok (.invokestatic 27, 3) := by decide +kernel
theorem dX10_speed_13 : decode cX10_speed 13 = .ok (.ifCond .ne 9, 3) := by decide +kernel
theorem dX10_speed_16 : decode cX10_speed 16 = .ok (.aload_n 0, 1) := by decide +kernel
theorem dX10_speed_17 : decode cX10_speed 17 = .ok (.iconst 1, 1) := by decide +kernel
theorem dX10_speed_18 : decode cX10_speed 18 = .ok (.invokevirtual 31, 3) := by decide +kernel
theorem dX10_speed_21 : decode cX10_speed 21 = .ok (.ireturn, 1) := by decide +kernel
theorem dX10_speed_22 : decode cX10_speed 22 = .ok (.aload_n 0, 1) := by decide +kernel
theorem dX10_speed_23 : decode cX10_speed 23 = .ok (.getfield 16, 3) := by decide +kernel
theorem dX10_speed_26 : decode cX10_speed 26 = .ok (.istore_n 2, 1) := by decide +kernel
theorem dX10_speed_27 : decode cX10_speed 27 = .ok (.aload_n 0, 1) := by decide +kernel
theorem dX10_speed_28 : decode cX10_speed 28 = .ok (.iload_n 1, 1) := by decide +kernel
theorem dX10_speed_29 : decode cX10_speed 29 = .ok (.putfield 16, 3) := by decide +kernel
theorem dX10_speed_32 : decode cX10_speed 32 = .ok (.iload_n 2, 1) := by decide +kernel
theorem dX10_speed_33 : decode cX10_speed 33 = .ok (.ireturn, 1) := by decide +kernel
theorem dX10_write_0 : decode cX10_write 0 = .ok (.aload_n 0, 1) := by decide +kernel
theorem dX10_write_1 : decode cX10_write 1 = .ok (.iconst 0, 1) := by decide +kernel
theorem dX10_write_2 : decode cX10_write 2 = .ok (.putfield 20, 3) := by decide +kernel
theorem dX10_write_5 : decode cX10_write 5 = .ok (.aload_n 0, 1) := by decide +kernel
theorem dX10_write_6 : decode cX10_write 6 = .ok (.iload_n 1, 1) := by decide +kernel
theorem dX10_write_7 : decode cX10_write 7 = .ok (.invokevirtual 44, 3) := by decide +kernel
theorem dX10_write_10 : decode cX10_write 10 = .ok (.ifCond .ne 9, 3) := by decide +kernel
theorem dX10_write_13 : decode cX10_write 13 = .ok (.aload_n 0, 1) := by decide +kernel
theorem dX10_write_14 : decode cX10_write 14 = .ok (.iconst 1, 1) := by decide +kernel
theorem dX10_write_15 : decode cX10_write 15 = .ok (.invokevirtual 31, 3) := by decide +kernel
theorem dX10_write_18 : decode cX10_write 18 = .ok (.ireturn, 1) := by decide +kernel
theorem dX10_mark_0 : decode cX10_mark 0 = .ok (.aload_n 0, 1) := by decide +kernel
theorem dX10_mark_1 : decode cX10_mark 1 = .ok (.iconst 0, 1) := by decide +kernel
theorem dX10_mark_2 : decode cX10_mark 2 = .ok (.putfield 20, 3) := by decide +kernel
theorem dX10_mark_5 : decode cX10_mark 5 = .ok (.aload_n 0, 1) := by decide +kernel
theorem dX10_mark_6 : decode cX10_mark 6 = .ok (.iload_n 1, 1) := by decide +kernel
theorem dX10_mark_7 : decode cX10_mark 7 = .ok (.invokevirtual 44, 3) := by decide +kernel
theorem dX10_mark_10 : decode cX10_mark 10 = .ok (.ifCond .ne 9, 3) := by decide +kernel
theorem dX10_mark_13 : decode cX10_mark 13 = .ok (.aload_n 0, 1) := by decide +kernel
theorem dX10_mark_14 : decode cX10_mark 14 = .ok (.iconst 1, 1) := by decide +kernel
theorem dX10_mark_15 : decode cX10_mark 15 = .ok (.invokevirtual 31, 3) := by decide +kernel
theorem dX10_mark_18 : decode cX10_mark 18 = .ok (.ireturn, 1) := by decide +kernel
theorem dX10_sector_0 : decode cX10_sector 0 = .ok (.aload_n 0, 1) := by decide +kernel
theorem dX10_sector_1 : decode cX10_sector 1 = .ok (.iconst 0, 1) := by decide +kernel
theorem dX10_sector_2 : decode cX10_sector 2 = .ok (.putfield 20, 3) := by decide +kernel
theorem dX10_sector_5 : decode cX10_sector 5 = .ok (.aload_n 0, 1) := by decide +kernel
theorem dX10_sector_6 : decode cX10_sector 6 = .ok (.iload_n 1, 1) := by decide +kernel
theorem dX10_sector_7 : decode cX10_sector 7 = .ok (.invokevirtual 44, 3) := by decide +kernel
theorem dX10_sector_10 : decode cX10_sector 10 = .ok (.ifCond .ne 9, 3) := by decide +kernel
theorem dX10_sector_13 : decode cX10_sector 13 = .ok (.aload_n 0, 1) := by decide +kernel
theorem dX10_sector_14 : decode cX10_sector 14 = .ok (.iconst 1, 1) := by decide +kernel
theorem dX10_sector_15 : decode cX10_sector 15 = .ok (.invokevirtual 31, 3) := by decide +kernel
theorem dX10_sector_18 : decode cX10_sector 18 = .ok (.ireturn, 1) := by decide +kernel
theorem dX10_isPlace_0 : decode cX10_isPlace 0 = .ok (.aload_n 0, 1) := by decide +kernel
theorem dX10_isPlace_1 : decode cX10_isPlace 1 = .ok (.iload_n 1, 1) := by decide +kernel
theorem dX10_isPlace_2 : decode cX10_isPlace 2 = .ok (.invokevirtual 44, 3) := by decide +kernel
theorem dX10_isPlace_5 : decode cX10_isPlace 5 = .ok (.ifCond .eq 31, 3) := by decide +kernel
theorem dX10_isPlace_36 : decode cX10_isPlace 36 = .ok (.iconst 0, 1) := by decide +kernel
theorem dX10_isPlace_37 : decode cX10_isPlace 37 = .ok (.ireturn, 1) := by decide +kernel
theorem dX10_weak_0 : decode cX10_weak 0 = .ok (.aload_n 0, 1) := by decide +kernel
theorem dX10_weak_1 : decode cX10_weak 1 = .ok (.aload_n 0, 1) := by decide +kernel
theorem dX10_weak_2 : decode cX10_weak 2 = .ok (.iload_n 1, 1) := by decide +kernel
theorem dX10_weak_3 : decode cX10_weak 3 = .ok (.iload_n 2, 1) := by decide +kernel
theorem dX10_weak_4 : decode cX10_weak 4 = .ok (.invokevirtual 74, 3) := by decide +kernel
theorem dX10_weak_7 : decode cX10_weak 7 = .ok (.ifCond .eq 7, 3) := by decide +kernel
theorem dX10_weak_14 : decode cX10_weak 14 = .ok (.iconst 1, 1) := by decide +kernel
theorem dX10_weak_15 : decode cX10_weak 15 = .ok (.putfield 20, 3) := by decide +kernel
theorem dX10_weak_18 : decode cX10_weak 18 = .ok (.aload_n 0, 1) := by decide +kernel
theorem dX10_weak_19 : decode cX10_weak 19 = .ok (.getfield 20, 3) := by decide +kernel
theorem dX10_weak_22 : decode cX10_weak 22 = .ok (.ifCond .le 5, 3) := by decide +kernel
theorem dX10_weak_25 : decode cX10_weak 25 = .ok (.iconst 0, 1) := by decide +kernel
theorem dX10_weak_26 : decode cX10_weak 26 = .ok (.ireturn, 1) := by decide +kernel
theorem dX10_dirt_0 : decode cX10_dirt 0 = .ok (.aload_n 0, 1) := by decide +kernel
theorem dX10_dirt_1 : decode cX10_dirt 1 = .ok (.iconst 0, 1) := by decide +kernel
theorem dX10_dirt_2 : decode cX10_dirt 2 = .ok (.putfield 20, 3) := by decide +kernel
theorem dX10_dirt_5 : decode cX10_dirt 5 = .ok (.aload_n 0, 1) := by decide +kernel
theorem dX10_dirt_6 : decode cX10_dirt 6 = .ok (.iload_n 1, 1) := by decide +kernel
theorem dX10_dirt_7 : decode cX10_dirt 7 = .ok (.iload_n 2, 1) := by decide +kernel
theorem dX10_dirt_8 : decode cX10_dirt 8 = .ok (.invokevirtual 74, 3) := by decide +kernel
theorem dX10_dirt_11 : decode cX10_dirt 11 = .ok (.ifCond .eq 12, 3) := by decide +kernel
theorem dX10_dirt_23 : decode cX10_dirt 23 = .ok (.aload_n 0, 1) := by decide +kernel
theorem dX10_dirt_24 : decode cX10_dirt 24 = .ok (.iconst 1, 1) := by decide +kernel
theorem dX10_dirt_25 : decode cX10_dirt 25 = .ok (.invokevirtual 31, 3) := by decide +kernel
theorem dX10_dirt_28 : decode cX10_dirt 28 = .ok (.ireturn, 1) := by decide +kernel
theorem dX10_clean_0 : decode cX10_clean 0 = .ok (.aload_n 0, 1) := by decide +kernel
theorem dX10_clean_1 : decode cX10_clean 1 = .ok (.iconst 0, 1) := by decide +kernel
theorem dX10_clean_2 : decode cX10_clean 2 = .ok (.putfield 20, 3) := by decide +kernel
theorem dX10_clean_5 : decode cX10_clean 5 = .ok (.aload_n 0, 1) := by decide +kernel
theorem dX10_clean_6 : decode cX10_clean 6 = .ok (.iload_n 1, 1) := by decide +kernel
theorem dX10_clean_7 : decode cX10_clean 7 = .ok (.invokevirtual 44, 3) := by decide +kernel
theorem dX10_clean_10 : decode cX10_clean 10 = .ok (.ifCond .ne 9, 3) := by decide +kernel
theorem dX10_clean_13 : decode cX10_clean 13 = .ok (.aload_n 0, 1) := by decide +kernel
theorem dX10_clean_14 : decode cX10_clean 14 = .ok (.iconst 1, 1) := by decide +kernel
theorem dX10_clean_15 : decode cX10_clean 15 = .ok (.invokevirtual 31, 3) := by decide +kernel
theorem dX10_clean_18 : decode cX10_clean 18 = .ok (.ireturn, 1) := by decide +kernel
theorem dX10_read_0 : decode cX10_read 0 = .ok (.aload_n 0, 1) := by decide +kernel
theorem dX10_read_1 : decode cX10_read 1 = .ok (.iconst 0, 1) := by decide +kernel
theorem dX10_read_2 : decode cX10_read 2 = .ok (.putfield 20, 3) := by decide +kernel
theorem dX10_read_5 : decode cX10_read 5 = .ok (.aload_n 0, 1) := by decide +kernel
theorem dX10_read_6 : decode cX10_read 6 = .ok (.iload_n 1, 1) := by decide +kernel
theorem dX10_read_7 : decode cX10_read 7 = .ok (.invokevirtual 44, 3) := by decide +kernel
theorem dX10_read_10 : decode cX10_read 10 = .ok (.ifCond .ne 9, 3) := by decide +kernel
theorem dX10_read_13 : decode cX10_read 13 = .ok (.aload_n 0, 1) := by decide +kernel
theorem dX10_read_14 : decode cX10_read 14 = .ok (.iconst 1, 1) := by decide +kernel
theorem dX10_read_15 : decode cX10_read 15 = .ok (.invokevirtual 31, 3) := by decide +kernel
theorem dX10_read_18 : decode cX10_read 18 = .ok (.ireturn, 1) := by decide +kernel
theorem dX10_copy_0 : decode cX10_copy 0 = .ok (.aload_n 0, 1) := by decide +kernel
theorem dX10_copy_1 : decode cX10_copy 1 = .ok (.iconst 0, 1) := by decide +kernel
theorem dX10_copy_2 : decode cX10_copy 2 = .ok (.putfield 20, 3) := by decide +kernel
theorem dX10_copy_5 : decode cX10_copy 5 = .ok (.aload_n 0, 1) := by decide +kernel
theorem dX10_copy_6 : decode cX10_copy 6 = .ok (.iload_n 1, 1) := by decide +kernel
theorem dX10_copy_7 : decode cX10_copy 7 = .ok (.invokevirtual 44, 3) := by decide +kernel
theorem dX10_copy_10 : decode cX10_copy 10 = .ok (.ifCond .eq 11, 3) := by decide +kernel
theorem dX10_copy_21 : decode cX10_copy 21 = .ok (.aload_n 0, 1) := by decide +kernel
theorem dX10_copy_22 : decode cX10_copy 22 = .ok (.iconst 1, 1) := by decide +kernel
theorem dX10_copy_23 : decode cX10_copy 23 = .ok (.invokevirtual 31, 3) := by decide +kernel
theorem dX10_copy_26 : decode cX10_copy 26 = .ok (.ireturn, 1) := by decide +kernel
theorem dX10_ofCell_0 : decode cX10_ofCell 0 = .ok (.aload_n 0, 1) := by decide +kernel
theorem dX10_ofCell_1 : decode cX10_ofCell 1 = .ok (.iconst 0, 1) := by decide +kernel
theorem dX10_ofCell_2 : decode cX10_ofCell 2 = .ok (.putfield 20, 3) := by decide +kernel
theorem dX10_ofCell_5 : decode cX10_ofCell 5 = .ok (.aload_n 0, 1) := by decide +kernel
theorem dX10_ofCell_6 : decode cX10_ofCell 6 = .ok (.iload_n 1, 1) := by decide +kernel
theorem dX10_ofCell_7 : decode cX10_ofCell 7 = .ok (.iload_n 2, 1) := by decide +kernel
theorem dX10_ofCell_8 : decode cX10_ofCell 8 = .ok (.invokevirtual 74, 3) := by decide +kernel
theorem dX10_ofCell_11 : decode cX10_ofCell 11 = .ok (.ifCond .ne 9, 3) := by decide +kernel
theorem dX10_ofCell_14 : decode cX10_ofCell 14 = .ok (.aload_n 0, 1) := by decide +kernel
theorem dX10_ofCell_15 : decode cX10_ofCell 15 = .ok (.iconst 1, 1) := by decide +kernel
theorem dX10_ofCell_16 : decode cX10_ofCell 16 = .ok (.invokevirtual 31, 3) := by decide +kernel
theorem dX10_ofCell_19 : decode cX10_ofCell 19 = .ok (.ireturn, 1) := by decide +kernel
theorem dX10_ofTrack_0 : decode cX10_ofTrack 0 = .ok (.aload_n 0, 1) := by decide +kernel
theorem dX10_ofTrack_1 : decode cX10_ofTrack 1 = .ok (.iconst 0, 1) := by decide +kernel
theorem dX10_ofTrack_2 : decode cX10_ofTrack 2 = .ok (.putfield 20, 3) := by decide +kernel
theorem dX10_ofTrack_5 : decode cX10_ofTrack 5 = .ok (.aload_n 0, 1) := by decide +kernel
theorem dX10_ofTrack_6 : decode cX10_ofTrack 6 = .ok (.iload_n 1, 1) := by decide +kernel
theorem dX10_ofTrack_7 : decode cX10_ofTrack 7 = .ok (.invokevirtual 44, 3) := by decide +kernel
theorem dX10_ofTrack_10 : decode cX10_ofTrack 10 = .ok (.ifCond .ne 9, 3) := by decide +kernel
theorem dX10_ofTrack_13 : decode cX10_ofTrack 13 = .ok (.aload_n 0, 1) := by decide +kernel
theorem dX10_ofTrack_14 : decode cX10_ofTrack 14 = .ok (.iconst 1, 1) := by decide +kernel
theorem dX10_ofTrack_15 : decode cX10_ofTrack 15 = .ok (.invokevirtual 31, 3) := by decide +kernel
theorem dX10_ofTrack_18 : decode cX10_ofTrack 18 = .ok (.ireturn, 1) := by decide +kernel
theorem dX10_vote_0 : decode cX10_vote 0 = .ok (.aload_n 0, 1) := by decide +kernel
theorem dX10_vote_1 : decode cX10_vote 1 = .ok (.iconst 0, 1) := by decide +kernel
theorem dX10_vote_2 : decode cX10_vote 2 = .ok (.putfield 20, 3) := by decide +kernel
theorem dX10_vote_5 : decode cX10_vote 5 = .ok (.aload_n 0, 1) := by decide +kernel
theorem dX10_vote_6 : decode cX10_vote 6 = .ok (.iload_n 1, 1) := by decide +kernel
theorem dX10_vote_7 : decode cX10_vote 7 = .ok (.invokevirtual 44, 3) := by decide +kernel
theorem dX10_vote_10 : decode cX10_vote 10 = .ok (.ifCond .eq 45, 3) := by decide +kernel
theorem dX10_vote_55 : decode cX10_vote 55 = .ok (.aload_n 0, 1) := by decide +kernel
theorem dX10_vote_56 : decode cX10_vote 56 = .ok (.iconst 1, 1) := by decide +kernel
theorem dX10_vote_57 : decode cX10_vote 57 = .ok (.invokevirtual 31, 3) := by decide +kernel
theorem dX10_vote_60 : decode cX10_vote 60 = .ok (.ireturn, 1) := by decide +kernel
theorem dX10_isTurn_0 : decode cX10_isTurn 0 = .ok (.aload_n 0, 1) := by decide +kernel
theorem dX10_isTurn_1 : decode cX10_isTurn 1 = .ok (.iload_n 1, 1) := by decide +kernel
theorem dX10_isTurn_2 : decode cX10_isTurn 2 = .ok (.invokevirtual 44, 3) := by decide +kernel
theorem dX10_isTurn_5 : decode cX10_isTurn 5 = .ok (.ifCond .eq 34, 3) := by decide +kernel
theorem dX10_isTurn_39 : decode cX10_isTurn 39 = .ok (.iconst 0, 1) := by decide +kernel
theorem dX10_isTurn_40 : decode cX10_isTurn 40 = .ok (.ireturn, 1) := by decide +kernel
theorem dX10_turn_0 : decode cX10_turn 0 = .ok (.aload_n 0, 1) := by decide +kernel
theorem dX10_turn_1 : decode cX10_turn 1 = .ok (.iconst 0, 1) := by decide +kernel
theorem dX10_turn_2 : decode cX10_turn 2 = .ok (.putfield 20, 3) := by decide +kernel
theorem dX10_turn_5 : decode cX10_turn 5 = .ok (.aload_n 0, 1) := by decide +kernel
theorem dX10_turn_6 : decode cX10_turn 6 = .ok (.iload_n 1, 1) := by decide +kernel
theorem dX10_turn_7 : decode cX10_turn 7 = .ok (.iload_n 2, 1) := by decide +kernel
theorem dX10_turn_8 : decode cX10_turn 8 = .ok (.invokevirtual 188, 3) := by decide +kernel
theorem dX10_turn_11 : decode cX10_turn 11 = .ok (.ifCond .eq 31, 3) := by decide +kernel
theorem dX10_turn_42 : decode cX10_turn 42 = .ok (.aload_n 0, 1) := by decide +kernel
theorem dX10_turn_43 : decode cX10_turn 43 = .ok (.iconst 1, 1) := by decide +kernel
theorem dX10_turn_44 : decode cX10_turn 44 = .ok (.invokevirtual 31, 3) := by decide +kernel
theorem dX10_turn_47 : decode cX10_turn 47 = .ok (.ireturn, 1) := by decide +kernel
theorem dX10_period_0 : decode cX10_period 0 = .ok (.aload_n 0, 1) := by decide +kernel
theorem dX10_period_1 : decode cX10_period 1 = .ok (.aload_n 0, 1) := by decide +kernel
theorem dX10_period_2 : decode cX10_period 2 = .ok (.iload_n 1, 1) := by decide +kernel
theorem dX10_period_3 : decode cX10_period 3 = .ok (.iload_n 2, 1) := by decide +kernel
theorem dX10_period_4 : decode cX10_period 4 = .ok (.invokevirtual 188, 3) := by decide +kernel
theorem dX10_period_7 : decode cX10_period 7 = .ok (.ifCond .eq 7, 3) := by decide +kernel
theorem dX10_period_14 : decode cX10_period 14 = .ok (.iconst 1, 1) := by decide +kernel
theorem dX10_period_15 : decode cX10_period 15 = .ok (.putfield 20, 3) := by decide +kernel
theorem dX10_period_18 : decode cX10_period 18 = .ok (.aload_n 0, 1) := by decide +kernel
theorem dX10_period_19 : decode cX10_period 19 = .ok (.getfield 20, 3) := by decide +kernel
theorem dX10_period_22 : decode cX10_period 22 = .ok (.ifCond .le 7, 3) := by decide +kernel
theorem dX10_period_25 : decode cX10_period 25 = .ok (.dconst 0, 1) := by decide +kernel
theorem dX10_period_26 : decode cX10_period 26 = .ok (.goto 27, 3) := by decide +kernel
theorem dX10_period_53 : decode cX10_period 53 = .ok (.dreturn, 1) := by decide +kernel
theorem dX10_ofSector_0 : decode cX10_ofSector 0 = .ok (.aload_n 0, 1) := by decide +kernel
theorem dX10_ofSector_1 : decode cX10_ofSector 1 = .ok (.iconst 0, 1) := by decide +kernel
theorem dX10_ofSector_2 : decode cX10_ofSector 2 = .ok (.putfield 20, 3) := by decide +kernel
theorem dX10_ofSector_5 : decode cX10_ofSector 5 = .ok (.aload_n 0, 1) := by decide +kernel
theorem dX10_ofSector_6 : decode cX10_ofSector 6 = .ok (.iload_n 1, 1) := by decide +kernel
theorem dX10_ofSector_7 : decode cX10_ofSector 7 = .ok (.invokevirtual 44, 3) := by decide +kernel
theorem dX10_ofSector_10 : decode cX10_ofSector 10 = .ok (.ifCond .ne 9, 3) := by decide +kernel
theorem dX10_ofSector_13 : decode cX10_ofSector 13 = .ok (.aload_n 0, 1) := by decide +kernel
theorem dX10_ofSector_14 : decode cX10_ofSector 14 = .ok (.iconst 1, 1) := by decide +kernel
theorem dX10_ofSector_15 : decode cX10_ofSector 15 = .ok (.invokevirtual 31, 3) := by decide +kernel
theorem dX10_ofSector_18 : decode cX10_ofSector 18 = .ok (.ireturn, 1) := by decide +kernel
theorem dX10_chain_0 : decode cX10_chain 0 = .ok (.aload_n 0, 1) := by decide +kernel
theorem dX10_chain_1 : decode cX10_chain 1 = .ok (.iconst 0, 1) := by decide +kernel
theorem dX10_chain_2 : decode cX10_chain 2 = .ok (.putfield 20, 3) := by decide +kernel
theorem dX10_chain_5 : decode cX10_chain 5 = .ok (.aload_n 0, 1) := by decide +kernel
theorem dX10_chain_6 : decode cX10_chain 6 = .ok (.iload_n 1, 1) := by decide +kernel
theorem dX10_chain_7 : decode cX10_chain 7 = .ok (.invokevirtual 44, 3) := by decide +kernel
theorem dX10_chain_10 : decode cX10_chain 10 = .ok (.ifCond .ne 9, 3) := by decide +kernel
theorem dX10_chain_13 : decode cX10_chain 13 = .ok (.aload_n 0, 1) := by decide +kernel
theorem dX10_chain_14 : decode cX10_chain 14 = .ok (.iconst 1, 1) := by decide +kernel
theorem dX10_chain_15 : decode cX10_chain 15 = .ok (.invokevirtual 31, 3) := by decide +kernel
theorem dX10_chain_18 : decode cX10_chain 18 = .ok (.ireturn, 1) := by decide +kernel
theorem dX10_manyNow_0 : decode cX10_manyNow 0 = .ok (.iconst 0, 1) := by decide +kernel
theorem dX10_manyNow_1 : decode cX10_manyNow 1 = .ok (.istore_n 2, 1) := by decide +kernel
theorem dX10_manyNow_2 : decode cX10_manyNow 2 = .ok (.aload_n 0, 1) := by decide +kernel
theorem dX10_manyNow_3 : decode cX10_manyNow 3 = .ok (.getfield 10, 3) := by decide +kernel
theorem dX10_manyNow_6 : decode cX10_manyNow 6 = .ok (.invokevirtual 154, 3) := by decide +kernel
theorem dX10_manyNow_9 : decode cX10_manyNow 9 = .ok (.astore_n 3, 1) := by decide +kernel
theorem dX10_manyNow_10 : decode cX10_manyNow 10 = .ok (.aload_n 3, 1) := by decide +kernel
theorem dX10_manyNow_11 : decode cX10_manyNow 11 = .ok (.invokeinterface 158 1, 5) := by decide +kernel
theorem dX10_manyNow_16 : decode cX10_manyNow 16 = .ok (.ifCond .eq 26, 3) := by decide +kernel
theorem dX10_manyNow_42 : decode cX10_manyNow 42 = .ok (.bipush 7, 2) := by decide +kernel
theorem dX10_manyNow_44 : decode cX10_manyNow 44 = .ok (.newarray .int, 2) := by decide +kernel
theorem dX10_manyNow_46 : decode cX10_manyNow 46 = .ok (.dup, 1) := by decide +kernel
theorem dX10_manyNow_47 : decode cX10_manyNow 47 = .ok (.iconst 0, 1) := by decide +kernel
theorem dX10_manyNow_48 : decode cX10_manyNow 48 = .ok (.aload_n 0, 1) := by decide +kernel
theorem dX10_manyNow_49 : decode cX10_manyNow 49 = .ok (.getfield 10, 3) := by decide +kernel
theorem dX10_manyNow_52 : decode cX10_manyNow 52 = .ok (.invokevirtual 23, 3) := by decide +kernel
theorem dX10_manyNow_55 : decode cX10_manyNow 55 = .ok (.iastore, 1) := by decide +kernel
theorem dX10_manyNow_56 : decode cX10_manyNow 56 = .ok (.dup, 1) := by decide +kernel
theorem dX10_manyNow_57 : decode cX10_manyNow 57 = .ok (.iconst 1, 1) := by decide +kernel
theorem dX10_manyNow_58 : decode cX10_manyNow 58 = .ok (.aload_n 0, 1) := by decide +kernel
theorem dX10_manyNow_59 : decode cX10_manyNow 59 = .ok (.getfield 16, 3) := by decide +kernel
theorem dX10_manyNow_62 : decode cX10_manyNow 62 = .ok (.iastore, 1) := by decide +kernel
theorem dX10_manyNow_63 : decode cX10_manyNow 63 = .ok (.dup, 1) := by decide +kernel
theorem dX10_manyNow_64 : decode cX10_manyNow 64 = .ok (.iconst 2, 1) := by decide +kernel
theorem dX10_manyNow_65 : decode cX10_manyNow 65 = .ok (.aload_n 0, 1) := by decide +kernel
theorem dX10_manyNow_66 : decode cX10_manyNow 66 = .ok (.getfield 95, 3) := by decide +kernel
theorem dX10_manyNow_69 : decode cX10_manyNow 69 = .ok (.iastore, 1) := by decide +kernel
theorem dX10_manyNow_70 : decode cX10_manyNow 70 = .ok (.dup, 1) := by decide +kernel
theorem dX10_manyNow_71 : decode cX10_manyNow 71 = .ok (.iconst 3, 1) := by decide +kernel
theorem dX10_manyNow_72 : decode cX10_manyNow 72 = .ok (.aload_n 0, 1) := by decide +kernel
theorem dX10_manyNow_73 : decode cX10_manyNow 73 = .ok (.getfield 120, 3) := by decide +kernel
theorem dX10_manyNow_76 : decode cX10_manyNow 76 = .ok (.iastore, 1) := by decide +kernel
theorem dX10_manyNow_77 : decode cX10_manyNow 77 = .ok (.dup, 1) := by decide +kernel
theorem dX10_manyNow_78 : decode cX10_manyNow 78 = .ok (.iconst 4, 1) := by decide +kernel
theorem dX10_manyNow_79 : decode cX10_manyNow 79 = .ok (.iload_n 2, 1) := by decide +kernel
theorem dX10_manyNow_80 : decode cX10_manyNow 80 = .ok (.iastore, 1) := by decide +kernel
theorem dX10_manyNow_81 : decode cX10_manyNow 81 = .ok (.dup, 1) := by decide +kernel
theorem dX10_manyNow_82 : decode cX10_manyNow 82 = .ok (.iconst 5, 1) := by decide +kernel
theorem dX10_manyNow_83 : decode cX10_manyNow 83 = .ok (.aload_n 0, 1) := by decide +kernel
theorem dX10_manyNow_84 : decode cX10_manyNow 84 = .ok (.getfield 147, 3) := by decide +kernel
theorem dX10_manyNow_87 : decode cX10_manyNow 87 = .ok (.iastore, 1) := by decide +kernel
theorem dX10_manyNow_88 : decode cX10_manyNow 88 = .ok (.dup, 1) := by decide +kernel
theorem dX10_manyNow_89 : decode cX10_manyNow 89 = .ok (.bipush 6, 2) := by decide +kernel
theorem dX10_manyNow_91 : decode cX10_manyNow 91 = .ok (.aload_n 0, 1) := by decide +kernel
theorem dX10_manyNow_92 : decode cX10_manyNow 92 = .ok (.getfield 144, 3) := by decide +kernel
theorem dX10_manyNow_95 : decode cX10_manyNow 95 = .ok (.iastore, 1) := by decide +kernel
theorem dX10_manyNow_96 : decode cX10_manyNow 96 = .ok (.astore_n 3, 1) := by decide +kernel
theorem dX10_manyNow_97 : decode cX10_manyNow 97 = .ok (.aload_n 3, 1) := by decide +kernel
theorem dX10_manyNow_98 : decode cX10_manyNow 98 = .ok (.iload_n 1, 1) := by decide +kernel
theorem dX10_manyNow_99 : decode cX10_manyNow 99 = .ok (.iaload, 1) := by decide +kernel
theorem dX10_manyNow_100 : decode cX10_manyNow 100 = .ok (.ireturn, 1) := by decide +kernel
theorem dX10_many_0 : decode cX10_many 0 = .ok (.aload_n 0, 1) := by decide +kernel
theorem dX10_many_1 : decode cX10_many 1 = .ok (.iconst 0, 1) := by decide +kernel
theorem dX10_many_2 : decode cX10_many 2 = .ok (.putfield 20, 3) := by decide +kernel
theorem dX10_many_5 : decode cX10_many 5 = .ok (.iload_n 1, 1) := by decide +kernel
theorem dX10_many_6 : decode cX10_many 6 = .ok (.iconst 0, 1) := by decide +kernel
theorem dX10_many_7 : decode cX10_many 7 = .ok (.bipush 6, 2) := by decide +kernel
theorem dX10_many_9 : decode cX10_many 9 = .ok (.invokestatic 27, 3) := by decide +kernel
theorem dX10_many_12 : decode cX10_many 12 = .ok (.ifCond .eq 11, 3) := by decide +kernel
theorem dX10_many_15 : decode cX10_many 15 = .ok (.aload_n 0, 1) := by decide +kernel
theorem dX10_many_16 : decode cX10_many 16 = .ok (.iload_n 1, 1) := by decide +kernel
theorem dX10_many_17 : decode cX10_many 17 = .ok (.invokevirtual 229, 3) := by decide +kernel
theorem dX10_many_20 : decode cX10_many 20 = .ok (.goto 8, 3) := by decide +kernel
theorem dX10_many_23 : decode cX10_many 23 = .ok (.aload_n 0, 1) := by decide +kernel
theorem dX10_many_24 : decode cX10_many 24 = .ok (.iconst 1, 1) := by decide +kernel
theorem dX10_many_25 : decode cX10_many 25 = .ok (.invokevirtual 31, 3) := by decide +kernel
theorem dX10_many_28 : decode cX10_many 28 = .ok (.ireturn, 1) := by decide +kernel
theorem dX10_sure_0 : decode cX10_sure 0 = .ok (.aload_n 0, 1) := by decide +kernel
theorem dX10_sure_1 : decode cX10_sure 1 = .ok (.aload_n 0, 1) := by decide +kernel
theorem dX10_sure_2 : decode cX10_sure 2 = .ok (.iload_n 1, 1) := by decide +kernel
theorem dX10_sure_3 : decode cX10_sure 3 = .ok (.invokevirtual 44, 3) := by decide +kernel
theorem dX10_sure_6 : decode cX10_sure 6 = .ok (.ifCond .eq 7, 3) := by decide +kernel
theorem dX10_sure_13 : decode cX10_sure 13 = .ok (.iconst 1, 1) := by decide +kernel
theorem dX10_sure_14 : decode cX10_sure 14 = .ok (.putfield 20, 3) := by decide +kernel
theorem dX10_sure_17 : decode cX10_sure 17 = .ok (.aload_n 0, 1) := by decide +kernel
theorem dX10_sure_18 : decode cX10_sure 18 = .ok (.getfield 20, 3) := by decide +kernel
theorem dX10_sure_21 : decode cX10_sure 21 = .ok (.ifCond .le 5, 3) := by decide +kernel
theorem dX10_sure_24 : decode cX10_sure 24 = .ok (.dconst 0, 1) := by decide +kernel
theorem dX10_sure_25 : decode cX10_sure 25 = .ok (.dreturn, 1) := by decide +kernel
theorem dX10_plainLong_0 : decode cX10_plainLong 0 = .ok (.aload_n 0, 1) := by decide +kernel
theorem dX10_plainLong_1 : decode cX10_plainLong 1 = .ok (.iconst 0, 1) := by decide +kernel
theorem dX10_plainLong_2 : decode cX10_plainLong 2 = .ok (.putfield 20, 3) := by decide +kernel
theorem dX10_plainLong_5 : decode cX10_plainLong 5 = .ok (.aload_n 0, 1) := by decide +kernel
