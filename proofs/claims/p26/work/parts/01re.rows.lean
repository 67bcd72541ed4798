theorem dX3_init_0 : decode cX3_init 0 = .ok (.aload_n 0, 1) := by decide +kernel
theorem dX3_init_1 : decode cX3_init 1 = .ok (.invokespecial 3, 3) := by decide +kernel
theorem dX3_init_4 : decode cX3_init 4 = .ok (.aload_n 0, 1) := by decide +kernel
theorem dX3_init_5 : decode cX3_init 5 = .ok (.sipush 400, 3) := by decide +kernel
theorem dX3_init_8 : decode cX3_init 8 = .ok (.newarray .int, 2) := by decide +kernel
theorem dX3_init_10 : decode cX3_init 10 = .ok (.putfield 9, 3) := by decide +kernel
theorem dX3_init_13 : decode cX3_init 13 = .ok (.aload_n 0, 1) := by decide +kernel
theorem dX3_init_14 : decode cX3_init 14 = .ok (.sipush 400, 3) := by decide +kernel
theorem dX3_init_17 : decode cX3_init 17 = .ok (.newarray .int, 2) := by decide +kernel
theorem dX3_init_19 : decode cX3_init 19 = .ok (.putfield 15, 3) := by decide +kernel
theorem dX3_init_22 : decode cX3_init 22 = .ok (.aload_n 0, 1) := by decide +kernel
theorem dX3_init_23 : decode cX3_init 23 = .ok (.sipush 400, 3) := by decide +kernel
theorem dX3_init_26 : decode cX3_init 26 = .ok (.newarray .boolean, 2) := by decide +kernel
theorem dX3_init_28 : decode cX3_init 28 = .ok (.putfield 18, 3) := by decide +kernel
theorem dX3_init_31 : decode cX3_init 31 = .ok (.aload_n 0, 1) := by decide +kernel
theorem dX3_init_32 : decode cX3_init 32 = .ok (.sipush 400, 3) := by decide +kernel
theorem dX3_init_35 : decode cX3_init 35 = .ok (.newarray .int, 2) := by decide +kernel
theorem dX3_init_37 : decode cX3_init 37 = .ok (.putfield 22, 3) := by decide +kernel
theorem dX3_init_40 : decode cX3_init 40 = .ok (.aload_n 0, 1) := by decide +kernel
theorem dX3_init_41 : decode cX3_init 41 = .ok (.iconst 0, 1) := by decide +kernel
theorem dX3_init_42 : decode cX3_init 42 = .ok (.putfield 25, 3) := by decide +kernel
theorem dX3_init_45 : decode cX3_init 45 = .ok (.aload_n 0, 1) := by decide +kernel
theorem dX3_init_46 : decode cX3_init 46 = .ok (.iconst 0, 1) := by decide +kernel
theorem dX3_init_47 : decode cX3_init 47 = .ok (.putfield 29, 3) := by decide +kernel
theorem dX3_init_50 : decode cX3_init 50 = .ok (.return_, 1) := by decide +kernel
theorem dX3_empty_0 : decode cX3_empty 0 = .ok (.aload_n 0, 1) := by decide +kernel
theorem dX3_empty_1 : decode cX3_empty 1 = .ok (.iconst 0, 1) := by decide +kernel
theorem dX3_empty_2 : decode cX3_empty 2 = .ok (.putfield 25, 3) := by decide +kernel
theorem dX3_empty_5 : decode cX3_empty 5 = .ok (.aload_n 0, 1) := by decide +kernel
theorem dX3_empty_6 : decode cX3_empty 6 = .ok (.iconst 0, 1) := by decide +kernel
theorem dX3_empty_7 : decode cX3_empty 7 = .ok (.putfield 29, 3) := by decide +kernel
theorem dX3_empty_10 : decode cX3_empty 10 = .ok (.return_, 1) := by decide +kernel
theorem dX3_hasRoomFor_0 : decode cX3_hasRoomFor 0 = .ok (.iload_n 1, 1) := by decide +kernel
theorem dX3_hasRoomFor_1 : decode cX3_hasRoomFor 1 = .ok (.sipush 400, 3) := by decide +kernel
theorem dX3_hasRoomFor_4 : decode cX3_hasRoomFor 4 = .ok (.aload_n 0, 1) := by decide +kernel
theorem dX3_hasRoomFor_5 : decode cX3_hasRoomFor 5 = .ok (.getfield 25, 3) := by decide +kernel
theorem dX3_hasRoomFor_8 : decode cX3_hasRoomFor 8 = .ok (.isub, 1) := by decide +kernel
theorem dX3_hasRoomFor_9 : decode cX3_hasRoomFor 9 = .ok (.if_icmp .gt 7, 3) := by decide +kernel
theorem dX3_hasRoomFor_12 : decode cX3_hasRoomFor 12 = .ok (.iconst 1, 1) := by decide +kernel
theorem dX3_hasRoomFor_13 : decode cX3_hasRoomFor 13 = .ok (.goto 4, 3) := by decide +kernel
theorem dX3_hasRoomFor_16 : decode cX3_hasRoomFor 16 = .ok (.iconst 0, 1) := by decide +kernel
theorem dX3_hasRoomFor_17 : decode cX3_hasRoomFor 17 = .ok (.ireturn, 1) := by decide +kernel
theorem dX3_hasPlace_0 : decode cX3_hasPlace 0 = .ok (.iload_n 1, 1) := by decide +kernel
theorem dX3_hasPlace_1 : decode cX3_hasPlace 1 = .ok (.ifCond .lt 22, 3) := by decide +kernel
theorem dX3_hasPlace_4 : decode cX3_hasPlace 4 = .ok (.iload_n 1, 1) := by decide +kernel
theorem dX3_hasPlace_5 : decode cX3_hasPlace 5 = .ok (.aload_n 0, 1) := by decide +kernel
theorem dX3_hasPlace_6 : decode cX3_hasPlace 6 = .ok (.getfield 25, 3) := by decide +kernel
theorem dX3_hasPlace_9 : decode cX3_hasPlace 9 = .ok (.if_icmp .ge 14, 3) := by decide +kernel
theorem dX3_hasPlace_12 : decode cX3_hasPlace 12 = .ok (.iload_n 1, 1) := by decide +kernel
theorem dX3_hasPlace_13 : decode cX3_hasPlace 13 = .ok (.sipush 400, 3) := by decide +kernel
theorem dX3_hasPlace_16 : decode cX3_hasPlace 16 = .ok (.if_icmp .ge 7, 3) := by decide +kernel
theorem dX3_hasPlace_19 : decode cX3_hasPlace 19 = .ok (.iconst 1, 1) := by decide +kernel
theorem dX3_hasPlace_20 : decode cX3_hasPlace 20 = .ok (.goto 4, 3) := by decide +kernel
theorem dX3_hasPlace_23 : decode cX3_hasPlace 23 = .ok (.iconst 0, 1) := by decide +kernel
theorem dX3_hasPlace_24 : decode cX3_hasPlace 24 = .ok (.ireturn, 1) := by decide +kernel
theorem dX3_put_0 : decode cX3_put 0 = .ok (.aload_n 0, 1) := by decide +kernel
theorem dX3_put_1 : decode cX3_put 1 = .ok (.getfield 25, 3) := by decide +kernel
theorem dX3_put_4 : decode cX3_put 4 = .ok (.ifCond .lt 13, 3) := by decide +kernel
theorem dX3_put_7 : decode cX3_put 7 = .ok (.aload_n 0, 1) := by decide +kernel
theorem dX3_put_8 : decode cX3_put 8 = .ok (.getfield 25, 3) := by decide +kernel
theorem dX3_put_11 : decode cX3_put 11 = .ok (.sipush 400, 3) := by decide +kernel
theorem dX3_put_14 : decode cX3_put 14 = .ok (.if_icmp .lt 4, 3) := by decide +kernel
theorem dX3_put_17 : decode cX3_put 17 = .ok (.return_, 1) := by decide +kernel
theorem dX3_put_18 : decode cX3_put 18 = .ok (.aload_n 0, 1) := by decide +kernel
theorem dX3_put_19 : decode cX3_put 19 = .ok (.getfield 9, 3) := by decide +kernel
theorem dX3_put_22 : decode cX3_put 22 = .ok (.aload_n 0, 1) := by decide +kernel
theorem dX3_put_23 : decode cX3_put 23 = .ok (.getfield 25, 3) := by decide +kernel
theorem dX3_put_26 : decode cX3_put 26 = .ok (.iload_n 1, 1) := by decide +kernel
theorem dX3_put_27 : decode cX3_put 27 = .ok (.iastore, 1) := by decide +kernel
theorem dX3_put_28 : decode cX3_put 28 = .ok (.aload_n 0, 1) := by decide +kernel
theorem dX3_put_29 : decode cX3_put 29 = .ok (.getfield 15, 3) := by decide +kernel
theorem dX3_put_32 : decode cX3_put 32 = .ok (.aload_n 0, 1) := by decide +kernel
theorem dX3_put_33 : decode cX3_put 33 = .ok (.getfield 25, 3) := by decide +kernel
theorem dX3_put_36 : decode cX3_put 36 = .ok (.iload_n 2, 1) := by decide +kernel
theorem dX3_put_37 : decode cX3_put 37 = .ok (.iastore, 1) := by decide +kernel
theorem dX3_put_38 : decode cX3_put 38 = .ok (.aload_n 0, 1) := by decide +kernel
theorem dX3_put_39 : decode cX3_put 39 = .ok (.getfield 18, 3) := by decide +kernel
theorem dX3_put_42 : decode cX3_put 42 = .ok (.aload_n 0, 1) := by decide +kernel
theorem dX3_put_43 : decode cX3_put 43 = .ok (.getfield 25, 3) := by decide +kernel
theorem dX3_put_46 : decode cX3_put 46 = .ok (.iconst 0, 1) := by decide +kernel
theorem dX3_put_47 : decode cX3_put 47 = .ok (.bastore, 1) := by decide +kernel
theorem dX3_put_48 : decode cX3_put 48 = .ok (.aload_n 0, 1) := by decide +kernel
theorem dX3_put_49 : decode cX3_put 49 = .ok (.getfield 22, 3) := by decide +kernel
theorem dX3_put_52 : decode cX3_put 52 = .ok (.aload_n 0, 1) := by decide +kernel
theorem dX3_put_53 : decode cX3_put 53 = .ok (.getfield 25, 3) := by decide +kernel
theorem dX3_put_56 : decode cX3_put 56 = .ok (.iconst 0, 1) := by decide +kernel
theorem dX3_put_57 : decode cX3_put 57 = .ok (.iastore, 1) := by decide +kernel
theorem dX3_put_58 : decode cX3_put 58 = .ok (.aload_n 0, 1) := by decide +kernel
theorem dX3_put_59 : decode cX3_put 59 = .ok (.dup, 1) := by decide +kernel
theorem dX3_put_60 : decode cX3_put 60 = .ok (.getfield 25, 3) := by decide +kernel
theorem dX3_put_63 : decode cX3_put 63 = .ok (.iconst 1, 1) := by decide +kernel
theorem dX3_put_64 : decode cX3_put 64 = .ok (.iadd, 1) := by decide +kernel
theorem dX3_put_65 : decode cX3_put 65 = .ok (.putfield 25, 3) := by decide +kernel
theorem dX3_put_68 : decode cX3_put 68 = .ok (.return_, 1) := by decide +kernel
theorem dX3_putMark_0 : decode cX3_putMark 0 = .ok (.aload_n 0, 1) := by decide +kernel
theorem dX3_putMark_1 : decode cX3_putMark 1 = .ok (.sipush 529, 3) := by decide +kernel
theorem dX3_putMark_4 : decode cX3_putMark 4 = .ok (.bipush 10, 2) := by decide +kernel
theorem dX3_putMark_6 : decode cX3_putMark 6 = .ok (.iload_n 1, 1) := by decide +kernel
theorem dX3_putMark_7 : decode cX3_putMark 7 = .ok (.invokevirtual 32, 3) := by decide +kernel
theorem dX3_putMark_10 : decode cX3_putMark 10 = .ok (.aload_n 0, 1) := by decide +kernel
theorem dX3_putMark_11 : decode cX3_putMark 11 = .ok (.iconst 0, 1) := by decide +kernel
theorem dX3_putMark_12 : decode cX3_putMark 12 = .ok (.putfield 29, 3) := by decide +kernel
theorem dX3_putMark_15 : decode cX3_putMark 15 = .ok (.return_, 1) := by decide +kernel
theorem dX3_putByte_0 : decode cX3_putByte 0 = .ok (.iload_n 1, 1) := by decide +kernel
theorem dX3_putByte_1 : decode cX3_putByte 1 = .ok (.iconst 2, 1) := by decide +kernel
theorem dX3_putByte_2 : decode cX3_putByte 2 = .ok (.if_icmp .ne 30, 3) := by decide +kernel
theorem dX3_putByte_5 : decode cX3_putByte 5 = .ok (.aload_n 0, 1) := by decide +kernel
theorem dX3_putByte_6 : decode cX3_putByte 6 = .ok (.iload_n 2, 1) := by decide +kernel
theorem dX3_putByte_7 : decode cX3_putByte 7 = .ok (.bipush 16, 2) := by decide +kernel
theorem dX3_putByte_9 : decode cX3_putByte 9 = .ok (.idiv, 1) := by decide +kernel
theorem dX3_putByte_10 : decode cX3_putByte 10 = .ok (.invokestatic 38, 3) := by decide +kernel
theorem dX3_putByte_13 : decode cX3_putByte 13 = .ok (.iconst 5, 1) := by decide +kernel
theorem dX3_putByte_14 : decode cX3_putByte 14 = .ok (.iload_n 3, 1) := by decide +kernel
theorem dX3_putByte_15 : decode cX3_putByte 15 = .ok (.invokevirtual 32, 3) := by decide +kernel
theorem dX3_putByte_18 : decode cX3_putByte 18 = .ok (.aload_n 0, 1) := by decide +kernel
theorem dX3_putByte_19 : decode cX3_putByte 19 = .ok (.iload_n 2, 1) := by decide +kernel
theorem dX3_putByte_20 : decode cX3_putByte 20 = .ok (.bipush 16, 2) := by decide +kernel
theorem dX3_putByte_22 : decode cX3_putByte 22 = .ok (.irem, 1) := by decide +kernel
theorem dX3_putByte_23 : decode cX3_putByte 23 = .ok (.invokestatic 38, 3) := by decide +kernel
theorem dX3_putByte_26 : decode cX3_putByte 26 = .ok (.iconst 5, 1) := by decide +kernel
theorem dX3_putByte_27 : decode cX3_putByte 27 = .ok (.iload_n 3, 1) := by decide +kernel
theorem dX3_putByte_28 : decode cX3_putByte 28 = .ok (.invokevirtual 32, 3) := by decide +kernel
theorem dX3_putByte_31 : decode cX3_putByte 31 = .ok (.return_, 1) := by decide +kernel
theorem dX3_putByte_32 : decode cX3_putByte 32 = .ok (.bipush 7, 2) := by decide +kernel
theorem dX3_putByte_34 : decode cX3_putByte 34 = .ok (.istore 4, 2) := by decide +kernel
theorem dX3_putByte_36 : decode cX3_putByte 36 = .ok (.iload 4, 2) := by decide +kernel
theorem dX3_putByte_38 : decode cX3_putByte 38 = .ok (.ifCond .lt 69, 3) := by decide +kernel
theorem dX3_putByte_41 : decode cX3_putByte 41 = .ok (.iload_n 2, 1) := by decide +kernel
theorem dX3_putByte_42 : decode cX3_putByte 42 = .ok (.iload 4, 2) := by decide +kernel
theorem dX3_putByte_44 : decode cX3_putByte 44 = .ok (.ishr, 1) := by decide +kernel
theorem dX3_putByte_45 : decode cX3_putByte 45 = .ok (.iconst 1, 1) := by decide +kernel
theorem dX3_putByte_46 : decode cX3_putByte 46 = .ok (.iand, 1) := by decide +kernel
theorem dX3_putByte_47 : decode cX3_putByte 47 = .ok (.istore 5, 2) := by decide +kernel
theorem dX3_putByte_49 : decode cX3_putByte 49 = .ok (.iload_n 1, 1) := by decide +kernel
theorem dX3_putByte_50 : decode cX3_putByte 50 = .ok (.iconst 1, 1) := by decide +kernel
theorem dX3_putByte_51 : decode cX3_putByte 51 = .ok (.if_icmp .ne 15, 3) := by decide +kernel
theorem dX3_putByte_54 : decode cX3_putByte 54 = .ok (.iload 5, 2) := by decide +kernel
theorem dX3_putByte_56 : decode cX3_putByte 56 = .ok (.ifCond .ne 14, 3) := by decide +kernel
theorem dX3_putByte_59 : decode cX3_putByte 59 = .ok (.aload_n 0, 1) := by decide +kernel
theorem dX3_putByte_60 : decode cX3_putByte 60 = .ok (.getfield 29, 3) := by decide +kernel
theorem dX3_putByte_63 : decode cX3_putByte 63 = .ok (.ifCond .ne 7, 3) := by decide +kernel
theorem dX3_putByte_66 : decode cX3_putByte 66 = .ok (.iconst 1, 1) := by decide +kernel
theorem dX3_putByte_67 : decode cX3_putByte 67 = .ok (.goto 4, 3) := by decide +kernel
theorem dX3_putByte_70 : decode cX3_putByte 70 = .ok (.iconst 0, 1) := by decide +kernel
theorem dX3_putByte_71 : decode cX3_putByte 71 = .ok (.istore 6, 2) := by decide +kernel
theorem dX3_putByte_73 : decode cX3_putByte 73 = .ok (.aload_n 0, 1) := by decide +kernel
theorem dX3_putByte_74 : decode cX3_putByte 74 = .ok (.iload 6, 2) := by decide +kernel
theorem dX3_putByte_76 : decode cX3_putByte 76 = .ok (.ifCond .eq 7, 3) := by decide +kernel
theorem dX3_putByte_79 : decode cX3_putByte 79 = .ok (.iconst 1, 1) := by decide +kernel
theorem dX3_putByte_80 : decode cX3_putByte 80 = .ok (.goto 4, 3) := by decide +kernel
theorem dX3_putByte_83 : decode cX3_putByte 83 = .ok (.iconst 0, 1) := by decide +kernel
theorem dX3_putByte_84 : decode cX3_putByte 84 = .ok (.iload_n 3, 1) := by decide +kernel
theorem dX3_putByte_85 : decode cX3_putByte 85 = .ok (.invokevirtual 42, 3) := by decide +kernel
theorem dX3_putByte_88 : decode cX3_putByte 88 = .ok (.aload_n 0, 1) := by decide +kernel
theorem dX3_putByte_89 : decode cX3_putByte 89 = .ok (.iload 5, 2) := by decide +kernel
theorem dX3_putByte_91 : decode cX3_putByte 91 = .ok (.iload_n 3, 1) := by decide +kernel
theorem dX3_putByte_92 : decode cX3_putByte 92 = .ok (.invokevirtual 42, 3) := by decide +kernel
theorem dX3_putByte_95 : decode cX3_putByte 95 = .ok (.aload_n 0, 1) := by decide +kernel
theorem dX3_putByte_96 : decode cX3_putByte 96 = .ok (.iload 5, 2) := by decide +kernel
theorem dX3_putByte_98 : decode cX3_putByte 98 = .ok (.putfield 29, 3) := by decide +kernel
theorem dX3_putByte_101 : decode cX3_putByte 101 = .ok (.iinc 4 (-1), 3) := by decide +kernel
theorem dX3_putByte_104 : decode cX3_putByte 104 = .ok (.goto (-68), 3) := by decide +kernel
theorem dX3_putByte_107 : decode cX3_putByte 107 = .ok (.return_, 1) := by decide +kernel
theorem dX3_putSector_0 : decode cX3_putSector 0 = .ok (.iload_n 2, 1) := by decide +kernel
theorem dX3_putSector_1 : decode cX3_putSector 1 = .ok (.iload_n 3, 1) := by decide +kernel
theorem dX3_putSector_2 : decode cX3_putSector 2 = .ok (.iadd, 1) := by decide +kernel
theorem dX3_putSector_3 : decode cX3_putSector 3 = .ok (.iload 5, 2) := by decide +kernel
theorem dX3_putSector_5 : decode cX3_putSector 5 = .ok (.ifCond .eq 7, 3) := by decide +kernel
theorem dX3_putSector_8 : decode cX3_putSector 8 = .ok (.iconst 0, 1) := by decide +kernel
theorem dX3_putSector_9 : decode cX3_putSector 9 = .ok (.goto 4, 3) := by decide +kernel
theorem dX3_putSector_12 : decode cX3_putSector 12 = .ok (.iconst 1, 1) := by decide +kernel
theorem dX3_putSector_13 : decode cX3_putSector 13 = .ok (.iadd, 1) := by decide +kernel
theorem dX3_putSector_14 : decode cX3_putSector 14 = .ok (.istore 7, 2) := by decide +kernel
theorem dX3_putSector_16 : decode cX3_putSector 16 = .ok (.aload_n 0, 1) := by decide +kernel
theorem dX3_putSector_17 : decode cX3_putSector 17 = .ok (.iload 6, 2) := by decide +kernel
theorem dX3_putSector_19 : decode cX3_putSector 19 = .ok (.invokevirtual 46, 3) := by decide +kernel
theorem dX3_putSector_22 : decode cX3_putSector 22 = .ok (.aload_n 0, 1) := by decide +kernel
theorem dX3_putSector_23 : decode cX3_putSector 23 = .ok (.iload_n 1, 1) := by decide +kernel
theorem dX3_putSector_24 : decode cX3_putSector 24 = .ok (.iload_n 2, 1) := by decide +kernel
theorem dX3_putSector_25 : decode cX3_putSector 25 = .ok (.iload 6, 2) := by decide +kernel
theorem dX3_putSector_27 : decode cX3_putSector 27 = .ok (.invokevirtual 50, 3) := by decide +kernel
theorem dX3_putSector_30 : decode cX3_putSector 30 = .ok (.aload_n 0, 1) := by decide +kernel
theorem dX3_putSector_31 : decode cX3_putSector 31 = .ok (.iload_n 1, 1) := by decide +kernel
theorem dX3_putSector_32 : decode cX3_putSector 32 = .ok (.iload_n 3, 1) := by decide +kernel
theorem dX3_putSector_33 : decode cX3_putSector 33 = .ok (.iload 6, 2) := by decide +kernel
theorem dX3_putSector_35 : decode cX3_putSector 35 = .ok (.invokevirtual 50, 3) := by decide +kernel
theorem dX3_putSector_38 : decode cX3_putSector 38 = .ok (.iconst 0, 1) := by decide +kernel
theorem dX3_putSector_39 : decode cX3_putSector 39 = .ok (.istore 8, 2) := by decide +kernel
theorem dX3_putSector_41 : decode cX3_putSector 41 = .ok (.iload 8, 2) := by decide +kernel
theorem dX3_putSector_43 : decode cX3_putSector 43 = .ok (.iload_n 3, 1) := by decide +kernel
theorem dX3_putSector_44 : decode cX3_putSector 44 = .ok (.if_icmp .ge 39, 3) := by decide +kernel
theorem dX3_putSector_47 : decode cX3_putSector 47 = .ok (.iload 4, 2) := by decide +kernel
theorem dX3_putSector_49 : decode cX3_putSector 49 = .ok (.bipush 8, 2) := by decide +kernel
theorem dX3_putSector_51 : decode cX3_putSector 51 = .ok (.iload 8, 2) := by decide +kernel
theorem dX3_putSector_53 : decode cX3_putSector 53 = .ok (.imul, 1) := by decide +kernel
theorem dX3_putSector_54 : decode cX3_putSector 54 = .ok (.iushr, 1) := by decide +kernel
theorem dX3_putSector_55 : decode cX3_putSector 55 = .ok (.sipush 255, 3) := by decide +kernel
theorem dX3_putSector_58 : decode cX3_putSector 58 = .ok (.iand, 1) := by decide +kernel
theorem dX3_putSector_59 : decode cX3_putSector 59 = .ok (.istore 9, 2) := by decide +kernel
theorem dX3_putSector_61 : decode cX3_putSector 61 = .ok (.aload_n 0, 1) := by decide +kernel
theorem dX3_putSector_62 : decode cX3_putSector 62 = .ok (.iload_n 1, 1) := by decide +kernel
theorem dX3_putSector_63 : decode cX3_putSector 63 = .ok (.iload 9, 2) := by decide +kernel
theorem dX3_putSector_65 : decode cX3_putSector 65 = .ok (.iload 6, 2) := by decide +kernel
theorem dX3_putSector_67 : decode cX3_putSector 67 = .ok (.invokevirtual 50, 3) := by decide +kernel
theorem dX3_putSector_70 : decode cX3_putSector 70 = .ok (.iload 7, 2) := by decide +kernel
theorem dX3_putSector_72 : decode cX3_putSector 72 = .ok (.iload 9, 2) := by decide +kernel
theorem dX3_putSector_74 : decode cX3_putSector 74 = .ok (.iadd, 1) := by decide +kernel
theorem dX3_putSector_75 : decode cX3_putSector 75 = .ok (.istore 7, 2) := by decide +kernel
theorem dX3_putSector_77 : decode cX3_putSector 77 = .ok (.iinc 8 1, 3) := by decide +kernel
theorem dX3_putSector_80 : decode cX3_putSector 80 = .ok (.goto (-39), 3) := by decide +kernel
theorem dX3_putSector_83 : decode cX3_putSector 83 = .ok (.aload_n 0, 1) := by decide +kernel
theorem dX3_putSector_84 : decode cX3_putSector 84 = .ok (.iload_n 1, 1) := by decide +kernel
theorem dX3_putSector_85 : decode cX3_putSector 85 = .ok (.iload 7, 2) := by decide +kernel
theorem dX3_putSector_87 : decode cX3_putSector 87 = .ok (.sipush 255, 3) := by decide +kernel
theorem dX3_putSector_90 : decode cX3_putSector 90 = .ok (.iand, 1) := by decide +kernel
theorem dX3_putSector_91 : decode cX3_putSector 91 = .ok (.iload 6, 2) := by decide +kernel
theorem dX3_putSector_93 : decode cX3_putSector 93 = .ok (.invokevirtual 50, 3) := by decide +kernel
theorem dX3_putSector_96 : decode cX3_putSector 96 = .ok (.aload_n 0, 1) := by decide +kernel
theorem dX3_putSector_97 : decode cX3_putSector 97 = .ok (.iconst 1, 1) := by decide +kernel
theorem dX3_putSector_98 : decode cX3_putSector 98 = .ok (.iload 6, 2) := by decide +kernel
theorem dX3_putSector_100 : decode cX3_putSector 100 = .ok (.invokevirtual 42, 3) := by decide +kernel
theorem dX3_putSector_103 : decode cX3_putSector 103 = .ok (.return_, 1) := by decide +kernel
theorem dX3_putDigits_0 : decode cX3_putDigits 0 = .ok (.iload_n 2, 1) := by decide +kernel
theorem dX3_putDigits_1 : decode cX3_putDigits 1 = .ok (.iconst 1, 1) := by decide +kernel
theorem dX3_putDigits_2 : decode cX3_putDigits 2 = .ok (.isub, 1) := by decide +kernel
theorem dX3_putDigits_3 : decode cX3_putDigits 3 = .ok (.istore 4, 2) := by decide +kernel
theorem dX3_putDigits_5 : decode cX3_putDigits 5 = .ok (.iload 4, 2) := by decide +kernel
theorem dX3_putDigits_7 : decode cX3_putDigits 7 = .ok (.ifCond .lt 20, 3) := by decide +kernel
theorem dX3_putDigits_10 : decode cX3_putDigits 10 = .ok (.aload_n 0, 1) := by decide +kernel
theorem dX3_putDigits_11 : decode cX3_putDigits 11 = .ok (.iload_n 1, 1) := by decide +kernel
theorem dX3_putDigits_12 : decode cX3_putDigits 12 = .ok (.iload 4, 2) := by decide +kernel
theorem dX3_putDigits_14 : decode cX3_putDigits 14 = .ok (.ishr, 1) := by decide +kernel
theorem dX3_putDigits_15 : decode cX3_putDigits 15 = .ok (.iconst 1, 1) := by decide +kernel
theorem dX3_putDigits_16 : decode cX3_putDigits 16 = .ok (.iand, 1) := by decide +kernel
theorem dX3_putDigits_17 : decode cX3_putDigits 17 = .ok (.iload_n 3, 1) := by decide +kernel
theorem dX3_putDigits_18 : decode cX3_putDigits 18 = .ok (.invokevirtual 42, 3) := by decide +kernel
theorem dX3_putDigits_21 : decode cX3_putDigits 21 = .ok (.iinc 4 (-1), 3) := by decide +kernel
theorem dX3_putDigits_24 : decode cX3_putDigits 24 = .ok (.goto (-19), 3) := by decide +kernel
theorem dX3_putDigits_27 : decode cX3_putDigits 27 = .ok (.return_, 1) := by decide +kernel
theorem dX3_bitAt_0 : decode cX3_bitAt 0 = .ok (.aload_n 0, 1) := by decide +kernel
theorem dX3_bitAt_1 : decode cX3_bitAt 1 = .ok (.iload_n 1, 1) := by decide +kernel
theorem dX3_bitAt_2 : decode cX3_bitAt 2 = .ok (.invokevirtual 53, 3) := by decide +kernel
theorem dX3_bitAt_5 : decode cX3_bitAt 5 = .ok (.ifCond .eq 12, 3) := by decide +kernel
theorem dX3_bitAt_8 : decode cX3_bitAt 8 = .ok (.aload_n 0, 1) := by decide +kernel
theorem dX3_bitAt_9 : decode cX3_bitAt 9 = .ok (.getfield 9, 3) := by decide +kernel
theorem dX3_bitAt_12 : decode cX3_bitAt 12 = .ok (.iload_n 1, 1) := by decide +kernel
theorem dX3_bitAt_13 : decode cX3_bitAt 13 = .ok (.iaload, 1) := by decide +kernel
theorem dX3_bitAt_14 : decode cX3_bitAt 14 = .ok (.goto 4, 3) := by decide +kernel
theorem dX3_bitAt_17 : decode cX3_bitAt 17 = .ok (.iconst 0, 1) := by decide +kernel
theorem dX3_bitAt_18 : decode cX3_bitAt 18 = .ok (.ireturn, 1) := by decide +kernel
theorem dX3_widthAt_0 : decode cX3_widthAt 0 = .ok (.aload_n 0, 1) := by decide +kernel
theorem dX3_widthAt_1 : decode cX3_widthAt 1 = .ok (.iload_n 1, 1) := by decide +kernel
theorem dX3_widthAt_2 : decode cX3_widthAt 2 = .ok (.invokevirtual 53, 3) := by decide +kernel
theorem dX3_widthAt_5 : decode cX3_widthAt 5 = .ok (.ifCond .eq 12, 3) := by decide +kernel
theorem dX3_widthAt_8 : decode cX3_widthAt 8 = .ok (.aload_n 0, 1) := by decide +kernel
theorem dX3_widthAt_9 : decode cX3_widthAt 9 = .ok (.getfield 15, 3) := by decide +kernel
theorem dX3_widthAt_12 : decode cX3_widthAt 12 = .ok (.iload_n 1, 1) := by decide +kernel
theorem dX3_widthAt_13 : decode cX3_widthAt 13 = .ok (.iaload, 1) := by decide +kernel
theorem dX3_widthAt_14 : decode cX3_widthAt 14 = .ok (.goto 4, 3) := by decide +kernel
theorem dX3_widthAt_17 : decode cX3_widthAt 17 = .ok (.iconst 0, 1) := by decide +kernel
theorem dX3_widthAt_18 : decode cX3_widthAt 18 = .ok (.ireturn, 1) := by decide +kernel
theorem dX3_isWeak_0 : decode cX3_isWeak 0 = .ok (.aload_n 0, 1) := by decide +kernel
theorem dX3_isWeak_1 : decode cX3_isWeak 1 = .ok (.iload_n 1, 1) := by decide +kernel
theorem dX3_isWeak_2 : decode cX3_isWeak 2 = .ok (.invokevirtual 53, 3) := by decide +kernel
theorem dX3_isWeak_5 : decode cX3_isWeak 5 = .ok (.ifCond .eq 16, 3) := by decide +kernel
theorem dX3_isWeak_8 : decode cX3_isWeak 8 = .ok (.aload_n 0, 1) := by decide +kernel
theorem dX3_isWeak_9 : decode cX3_isWeak 9 = .ok (.getfield 18, 3) := by decide +kernel
theorem dX3_isWeak_12 : decode cX3_isWeak 12 = .ok (.iload_n 1, 1) := by decide +kernel
theorem dX3_isWeak_13 : decode cX3_isWeak 13 = .ok (.baload, 1) := by decide +kernel
theorem dX3_isWeak_14 : decode cX3_isWeak 14 = .ok (.ifCond .eq 7, 3) := by decide +kernel
theorem dX3_isWeak_17 : decode cX3_isWeak 17 = .ok (.iconst 1, 1) := by decide +kernel
theorem dX3_isWeak_18 : decode cX3_isWeak 18 = .ok (.goto 4, 3) := by decide +kernel
theorem dX3_isWeak_21 : decode cX3_isWeak 21 = .ok (.iconst 0, 1) := by decide +kernel
theorem dX3_isWeak_22 : decode cX3_isWeak 22 = .ok (.ireturn, 1) := by decide +kernel
theorem dX3_setWeak_0 : decode cX3_setWeak 0 = .ok (.aload_n 0, 1) := by decide +kernel
theorem dX3_setWeak_1 : decode cX3_setWeak 1 = .ok (.iload_n 1, 1) := by decide +kernel
theorem dX3_setWeak_2 : decode cX3_setWeak 2 = .ok (.invokevirtual 53, 3) := by decide +kernel
theorem dX3_setWeak_5 : decode cX3_setWeak 5 = .ok (.ifCond .eq 10, 3) := by decide +kernel
theorem dX3_setWeak_8 : decode cX3_setWeak 8 = .ok (.aload_n 0, 1) := by decide +kernel
theorem dX3_setWeak_9 : decode cX3_setWeak 9 = .ok (.getfield 18, 3) := by decide +kernel
theorem dX3_setWeak_12 : decode cX3_setWeak 12 = .ok (.iload_n 1, 1) := by decide +kernel
theorem dX3_setWeak_13 : decode cX3_setWeak 13 = .ok (.iload_n 2, 1) := by decide +kernel
theorem dX3_setWeak_14 : decode cX3_setWeak 14 = .ok (.bastore, 1) := by decide +kernel
theorem dX3_setWeak_15 : decode cX3_setWeak 15 = .ok (.return_, 1) := by decide +kernel
theorem dX3_dirtAt_0 : decode cX3_dirtAt 0 = .ok (.aload_n 0, 1) := by decide +kernel
theorem dX3_dirtAt_1 : decode cX3_dirtAt 1 = .ok (.iload_n 1, 1) := by decide +kernel
theorem dX3_dirtAt_2 : decode cX3_dirtAt 2 = .ok (.invokevirtual 53, 3) := by decide +kernel
theorem dX3_dirtAt_5 : decode cX3_dirtAt 5 = .ok (.ifCond .eq 12, 3) := by decide +kernel
theorem dX3_dirtAt_8 : decode cX3_dirtAt 8 = .ok (.aload_n 0, 1) := by decide +kernel
theorem dX3_dirtAt_9 : decode cX3_dirtAt 9 = .ok (.getfield 22, 3) := by decide +kernel
theorem dX3_dirtAt_12 : decode cX3_dirtAt 12 = .ok (.iload_n 1, 1) := by decide +kernel
theorem dX3_dirtAt_13 : decode cX3_dirtAt 13 = .ok (.iaload, 1) := by decide +kernel
theorem dX3_dirtAt_14 : decode cX3_dirtAt 14 = .ok (.goto 4, 3) := by decide +kernel
theorem dX3_dirtAt_17 : decode cX3_dirtAt 17 = .ok (.iconst 0, 1) := by decide +kernel
theorem dX3_dirtAt_18 : decode cX3_dirtAt 18 = .ok (.ireturn, 1) := by decide +kernel
theorem dX3_setDirt_0 : decode cX3_setDirt 0 = .ok (.aload_n 0, 1) := by decide +kernel
theorem dX3_setDirt_1 : decode cX3_setDirt 1 = .ok (.iload_n 1, 1) := by decide +kernel
theorem dX3_setDirt_2 : decode cX3_setDirt 2 = .ok (.invokevirtual 53, 3) := by decide +kernel
theorem dX3_setDirt_5 : decode cX3_setDirt 5 = .ok (.ifCond .eq 10, 3) := by decide +kernel
theorem dX3_setDirt_8 : decode cX3_setDirt 8 = .ok (.aload_n 0, 1) := by decide +kernel
theorem dX3_setDirt_9 : decode cX3_setDirt 9 = .ok (.getfield 22, 3) := by decide +kernel
theorem dX3_setDirt_12 : decode cX3_setDirt 12 = .ok (.iload_n 1, 1) := by decide +kernel
theorem dX3_setDirt_13 : decode cX3_setDirt 13 = .ok (.iload_n 2, 1) := by decide +kernel
theorem dX3_setDirt_14 : decode cX3_setDirt 14 = .ok (.iastore, 1) := by decide +kernel
theorem dX3_setDirt_15 : decode cX3_setDirt 15 = .ok (.return_, 1) := by decide +kernel
theorem dX3_dirtTold_0 : decode cX3_dirtTold 0 = .ok (.aload_n 0, 1) := by decide +kernel
theorem dX3_dirtTold_1 : decode cX3_dirtTold 1 = .ok (.iload_n 1, 1) := by decide +kernel
theorem dX3_dirtTold_2 : decode cX3_dirtTold 2 = .ok (.invokevirtual 57, 3) := by decide +kernel
theorem dX3_dirtTold_5 : decode cX3_dirtTold 5 = .ok (.istore_n 2, 1) := by decide +kernel
theorem dX3_dirtTold_6 : decode cX3_dirtTold 6 = .ok (.iload_n 2, 1) := by decide +kernel
theorem dX3_dirtTold_7 : decode cX3_dirtTold 7 = .ok (.ifCond .ne 5, 3) := by decide +kernel
theorem dX3_dirtTold_10 : decode cX3_dirtTold 10 = .ok (.iconst 0, 1) := by decide +kernel
theorem dX3_dirtTold_11 : decode cX3_dirtTold 11 = .ok (.ireturn, 1) := by decide +kernel
theorem dX3_dirtTold_12 : decode cX3_dirtTold 12 = .ok (.iload_n 2, 1) := by decide +kernel
theorem dX3_dirtTold_13 : decode cX3_dirtTold 13 = .ok (.iconst 3, 1) := by decide +kernel
theorem dX3_dirtTold_14 : decode cX3_dirtTold 14 = .ok (.if_icmp .ne 7, 3) := by decide +kernel
theorem dX3_dirtTold_17 : decode cX3_dirtTold 17 = .ok (.iconst 2, 1) := by decide +kernel
theorem dX3_dirtTold_18 : decode cX3_dirtTold 18 = .ok (.goto 4, 3) := by decide +kernel
theorem dX3_dirtTold_21 : decode cX3_dirtTold 21 = .ok (.iconst 1, 1) := by decide +kernel
theorem dX3_dirtTold_22 : decode cX3_dirtTold 22 = .ok (.ireturn, 1) := by decide +kernel
theorem dX3_isDrawn_0 : decode cX3_isDrawn 0 = .ok (.aload_n 0, 1) := by decide +kernel
theorem dX3_isDrawn_1 : decode cX3_isDrawn 1 = .ok (.iload_n 1, 1) := by decide +kernel
theorem dX3_isDrawn_2 : decode cX3_isDrawn 2 = .ok (.invokevirtual 60, 3) := by decide +kernel
theorem dX3_isDrawn_5 : decode cX3_isDrawn 5 = .ok (.ifCond .eq 15, 3) := by decide +kernel
theorem dX3_isDrawn_8 : decode cX3_isDrawn 8 = .ok (.aload_n 0, 1) := by decide +kernel
theorem dX3_isDrawn_9 : decode cX3_isDrawn 9 = .ok (.iload_n 1, 1) := by decide +kernel
theorem dX3_isDrawn_10 : decode cX3_isDrawn 10 = .ok (.invokevirtual 57, 3) := by decide +kernel
theorem dX3_isDrawn_13 : decode cX3_isDrawn 13 = .ok (.ifCond .ne 7, 3) := by decide +kernel
theorem dX3_isDrawn_16 : decode cX3_isDrawn 16 = .ok (.iconst 1, 1) := by decide +kernel
theorem dX3_isDrawn_17 : decode cX3_isDrawn 17 = .ok (.goto 4, 3) := by decide +kernel
theorem dX3_isDrawn_20 : decode cX3_isDrawn 20 = .ok (.iconst 0, 1) := by decide +kernel
theorem dX3_isDrawn_21 : decode cX3_isDrawn 21 = .ok (.ireturn, 1) := by decide +kernel
theorem dX3_isPlainOne_0 : decode cX3_isPlainOne 0 = .ok (.aload_n 0, 1) := by decide +kernel
theorem dX3_isPlainOne_1 : decode cX3_isPlainOne 1 = .ok (.iload_n 1, 1) := by decide +kernel
theorem dX3_isPlainOne_2 : decode cX3_isPlainOne 2 = .ok (.invokevirtual 63, 3) := by decide +kernel
theorem dX3_isPlainOne_5 : decode cX3_isPlainOne 5 = .ok (.iconst 1, 1) := by decide +kernel
theorem dX3_isPlainOne_6 : decode cX3_isPlainOne 6 = .ok (.if_icmp .ne 15, 3) := by decide +kernel
theorem dX3_isPlainOne_9 : decode cX3_isPlainOne 9 = .ok (.aload_n 0, 1) := by decide +kernel
theorem dX3_isPlainOne_10 : decode cX3_isPlainOne 10 = .ok (.iload_n 1, 1) := by decide +kernel
theorem dX3_isPlainOne_11 : decode cX3_isPlainOne 11 = .ok (.invokevirtual 57, 3) := by decide +kernel
theorem dX3_isPlainOne_14 : decode cX3_isPlainOne 14 = .ok (.ifCond .ne 7, 3) := by decide +kernel
theorem dX3_isPlainOne_17 : decode cX3_isPlainOne 17 = .ok (.iconst 1, 1) := by decide +kernel
theorem dX3_isPlainOne_18 : decode cX3_isPlainOne 18 = .ok (.goto 4, 3) := by decide +kernel
theorem dX3_isPlainOne_21 : decode cX3_isPlainOne 21 = .ok (.iconst 0, 1) := by decide +kernel
theorem dX3_isPlainOne_22 : decode cX3_isPlainOne 22 = .ok (.ireturn, 1) := by decide +kernel
theorem dX3_soil_0 : decode cX3_soil 0 = .ok (.iconst 0, 1) := by decide +kernel
theorem dX3_soil_1 : decode cX3_soil 1 = .ok (.iload_n 1, 1) := by decide +kernel
theorem dX3_soil_2 : decode cX3_soil 2 = .ok (.invokestatic 66, 3) := by decide +kernel
theorem dX3_soil_5 : decode cX3_soil 5 = .ok (.istore_n 3, 1) := by decide +kernel
theorem dX3_soil_6 : decode cX3_soil 6 = .ok (.iload_n 3, 1) := by decide +kernel
theorem dX3_soil_7 : decode cX3_soil 7 = .ok (.iload_n 2, 1) := by decide +kernel
theorem dX3_soil_8 : decode cX3_soil 8 = .ok (.if_icmp .gt 31, 3) := by decide +kernel
theorem dX3_soil_11 : decode cX3_soil 11 = .ok (.iload_n 3, 1) := by decide +kernel
theorem dX3_soil_12 : decode cX3_soil 12 = .ok (.aload_n 0, 1) := by decide +kernel
theorem dX3_soil_13 : decode cX3_soil 13 = .ok (.getfield 25, 3) := by decide +kernel
theorem dX3_soil_16 : decode cX3_soil 16 = .ok (.if_icmp .ge 23, 3) := by decide +kernel
theorem dX3_soil_19 : decode cX3_soil 19 = .ok (.aload_n 0, 1) := by decide +kernel
theorem dX3_soil_20 : decode cX3_soil 20 = .ok (.iload_n 3, 1) := by decide +kernel
theorem dX3_soil_21 : decode cX3_soil 21 = .ok (.invokevirtual 57, 3) := by decide +kernel
theorem dX3_soil_24 : decode cX3_soil 24 = .ok (.ifCond .ne 9, 3) := by decide +kernel
theorem dX3_soil_27 : decode cX3_soil 27 = .ok (.aload_n 0, 1) := by decide +kernel
theorem dX3_soil_28 : decode cX3_soil 28 = .ok (.iload_n 3, 1) := by decide +kernel
theorem dX3_soil_29 : decode cX3_soil 29 = .ok (.iconst 1, 1) := by decide +kernel
theorem dX3_soil_30 : decode cX3_soil 30 = .ok (.invokevirtual 72, 3) := by decide +kernel
theorem dX3_soil_33 : decode cX3_soil 33 = .ok (.iinc 3 1, 3) := by decide +kernel
theorem dX3_soil_36 : decode cX3_soil 36 = .ok (.goto (-30), 3) := by decide +kernel
theorem dX3_soil_39 : decode cX3_soil 39 = .ok (.return_, 1) := by decide +kernel
theorem dX3_wipe_0 : decode cX3_wipe 0 = .ok (.iconst 0, 1) := by decide +kernel
theorem dX3_wipe_1 : decode cX3_wipe 1 = .ok (.istore_n 1, 1) := by decide +kernel
theorem dX3_wipe_2 : decode cX3_wipe 2 = .ok (.iload_n 1, 1) := by decide +kernel
theorem dX3_wipe_3 : decode cX3_wipe 3 = .ok (.aload_n 0, 1) := by decide +kernel
theorem dX3_wipe_4 : decode cX3_wipe 4 = .ok (.getfield 25, 3) := by decide +kernel
theorem dX3_wipe_7 : decode cX3_wipe 7 = .ok (.if_icmp .ge 24, 3) := by decide +kernel
theorem dX3_wipe_10 : decode cX3_wipe 10 = .ok (.aload_n 0, 1) := by decide +kernel
theorem dX3_wipe_11 : decode cX3_wipe 11 = .ok (.iload_n 1, 1) := by decide +kernel
theorem dX3_wipe_12 : decode cX3_wipe 12 = .ok (.invokevirtual 57, 3) := by decide +kernel
theorem dX3_wipe_15 : decode cX3_wipe 15 = .ok (.iconst 3, 1) := by decide +kernel
theorem dX3_wipe_16 : decode cX3_wipe 16 = .ok (.if_icmp .eq 9, 3) := by decide +kernel
theorem dX3_wipe_19 : decode cX3_wipe 19 = .ok (.aload_n 0, 1) := by decide +kernel
theorem dX3_wipe_20 : decode cX3_wipe 20 = .ok (.iload_n 1, 1) := by decide +kernel
theorem dX3_wipe_21 : decode cX3_wipe 21 = .ok (.iconst 0, 1) := by decide +kernel
theorem dX3_wipe_22 : decode cX3_wipe 22 = .ok (.invokevirtual 72, 3) := by decide +kernel
theorem dX3_wipe_25 : decode cX3_wipe 25 = .ok (.iinc 1 1, 3) := by decide +kernel
theorem dX3_wipe_28 : decode cX3_wipe 28 = .ok (.goto (-26), 3) := by decide +kernel
theorem dX3_wipe_31 : decode cX3_wipe 31 = .ok (.return_, 1) := by decide +kernel
theorem dX3_wear_0 : decode cX3_wear 0 = .ok (.aload_n 0, 1) := by decide +kernel
theorem dX3_wear_1 : decode cX3_wear 1 = .ok (.iload_n 1, 1) := by decide +kernel
theorem dX3_wear_2 : decode cX3_wear 2 = .ok (.invokevirtual 57, 3) := by decide +kernel
theorem dX3_wear_5 : decode cX3_wear 5 = .ok (.istore_n 2, 1) := by decide +kernel
theorem dX3_wear_6 : decode cX3_wear 6 = .ok (.iload_n 2, 1) := by decide +kernel
theorem dX3_wear_7 : decode cX3_wear 7 = .ok (.iconst 1, 1) := by decide +kernel
theorem dX3_wear_8 : decode cX3_wear 8 = .ok (.if_icmp .ne 12, 3) := by decide +kernel
theorem dX3_wear_11 : decode cX3_wear 11 = .ok (.aload_n 0, 1) := by decide +kernel
theorem dX3_wear_12 : decode cX3_wear 12 = .ok (.iload_n 1, 1) := by decide +kernel
theorem dX3_wear_13 : decode cX3_wear 13 = .ok (.iconst 2, 1) := by decide +kernel
theorem dX3_wear_14 : decode cX3_wear 14 = .ok (.invokevirtual 72, 3) := by decide +kernel
theorem dX3_wear_17 : decode cX3_wear 17 = .ok (.goto 14, 3) := by decide +kernel
theorem dX3_wear_20 : decode cX3_wear 20 = .ok (.iload_n 2, 1) := by decide +kernel
theorem dX3_wear_21 : decode cX3_wear 21 = .ok (.iconst 2, 1) := by decide +kernel
theorem dX3_wear_22 : decode cX3_wear 22 = .ok (.if_icmp .ne 9, 3) := by decide +kernel
theorem dX3_wear_25 : decode cX3_wear 25 = .ok (.aload_n 0, 1) := by decide +kernel
theorem dX3_wear_26 : decode cX3_wear 26 = .ok (.iload_n 1, 1) := by decide +kernel
theorem dX3_wear_27 : decode cX3_wear 27 = .ok (.iconst 3, 1) := by decide +kernel
theorem dX3_wear_28 : decode cX3_wear 28 = .ok (.invokevirtual 72, 3) := by decide +kernel
theorem dX3_wear_31 : decode cX3_wear 31 = .ok (.return_, 1) := by decide +kernel
theorem dX3_countOf_0 : decode cX3_countOf 0 = .ok (.iconst 0, 1) := by decide +kernel
theorem dX3_countOf_1 : decode cX3_countOf 1 = .ok (.istore_n 2, 1) := by decide +kernel
theorem dX3_countOf_2 : decode cX3_countOf 2 = .ok (.iconst 0, 1) := by decide +kernel
theorem dX3_countOf_3 : decode cX3_countOf 3 = .ok (.istore_n 3, 1) := by decide +kernel
theorem dX3_countOf_4 : decode cX3_countOf 4 = .ok (.iload_n 3, 1) := by decide +kernel
theorem dX3_countOf_5 : decode cX3_countOf 5 = .ok (.aload_n 0, 1) := by decide +kernel
theorem dX3_countOf_6 : decode cX3_countOf 6 = .ok (.getfield 25, 3) := by decide +kernel
theorem dX3_countOf_9 : decode cX3_countOf 9 = .ok (.if_icmp .ge 21, 3) := by decide +kernel
theorem dX3_countOf_12 : decode cX3_countOf 12 = .ok (.aload_n 0, 1) := by decide +kernel
theorem dX3_countOf_13 : decode cX3_countOf 13 = .ok (.iload_n 3, 1) := by decide +kernel
theorem dX3_countOf_14 : decode cX3_countOf 14 = .ok (.invokevirtual 75, 3) := by decide +kernel
theorem dX3_countOf_17 : decode cX3_countOf 17 = .ok (.iload_n 1, 1) := by decide +kernel
theorem dX3_countOf_18 : decode cX3_countOf 18 = .ok (.if_icmp .ne 6, 3) := by decide +kernel
theorem dX3_countOf_21 : decode cX3_countOf 21 = .ok (.iinc 2 1, 3) := by decide +kernel
theorem dX3_countOf_24 : decode cX3_countOf 24 = .ok (.iinc 3 1, 3) := by decide +kernel
theorem dX3_countOf_27 : decode cX3_countOf 27 = .ok (.goto (-23), 3) := by decide +kernel
theorem dX3_countOf_30 : decode cX3_countOf 30 = .ok (.iload_n 2, 1) := by decide +kernel
theorem dX3_countOf_31 : decode cX3_countOf 31 = .ok (.ireturn, 1) := by decide +kernel
theorem dX3_widthsTogether_0 : decode cX3_widthsTogether 0 = .ok (.iconst 0, 1) := by decide +kernel
theorem dX3_widthsTogether_1 : decode cX3_widthsTogether 1 = .ok (.istore_n 1, 1) := by decide +kernel
theorem dX3_widthsTogether_2 : decode cX3_widthsTogether 2 = .ok (.iconst 0, 1) := by decide +kernel
theorem dX3_widthsTogether_3 : decode cX3_widthsTogether 3 = .ok (.istore_n 2, 1) := by decide +kernel
theorem dX3_widthsTogether_4 : decode cX3_widthsTogether 4 = .ok (.iload_n 2, 1) := by decide +kernel
theorem dX3_widthsTogether_5 : decode cX3_widthsTogether 5 = .ok (.aload_n 0, 1) := by decide +kernel
theorem dX3_widthsTogether_6 : decode cX3_widthsTogether 6 = .ok (.getfield 25, 3) := by decide +kernel
theorem dX3_widthsTogether_9 : decode cX3_widthsTogether 9 = .ok (.if_icmp .ge 17, 3) := by decide +kernel
theorem dX3_widthsTogether_12 : decode cX3_widthsTogether 12 = .ok (.iload_n 1, 1) := by decide +kernel
theorem dX3_widthsTogether_13 : decode cX3_widthsTogether 13 = .ok (.aload_n 0, 1) := by decide +kernel
theorem dX3_widthsTogether_14 : decode cX3_widthsTogether 14 = .ok (.iload_n 2, 1) := by decide +kernel
theorem dX3_widthsTogether_15 : decode cX3_widthsTogether 15 = .ok (.invokevirtual 78, 3) := by decide +kernel
theorem dX3_widthsTogether_18 : decode cX3_widthsTogether 18 = .ok (.iadd, 1) := by decide +kernel
theorem dX3_widthsTogether_19 : decode cX3_widthsTogether 19 = .ok (.istore_n 1, 1) := by decide +kernel
theorem dX3_widthsTogether_20 : decode cX3_widthsTogether 20 = .ok (.iinc 2 1, 3) := by decide +kernel
theorem dX3_widthsTogether_23 : decode cX3_widthsTogether 23 = .ok (.goto (-19), 3) := by decide +kernel
theorem dX3_widthsTogether_26 : decode cX3_widthsTogether 26 = .ok (.iload_n 1, 1) := by decide +kernel
theorem dX3_widthsTogether_27 : decode cX3_widthsTogether 27 = .ok (.ireturn, 1) := by decide +kernel
theorem dX4_init_0 : decode cX4_init 0 = .ok (.aload_n 0, 1) := by decide +kernel
theorem dX4_init_1 : decode cX4_init 1 = .ok (.invokespecial 3, 3) := by decide +kernel
theorem dX4_init_4 : decode cX4_init 4 = .ok (.aload_n 0, 1) := by decide +kernel
theorem dX4_init_5 : decode cX4_init 5 = .ok (.new 9, 3) := by decide +kernel
theorem dX4_init_8 : decode cX4_init 8 = .ok (.dup, 1) := by decide +kernel
theorem dX4_init_9 : decode cX4_init 9 = .ok (.invokespecial 11, 3) := by decide +kernel
theorem dX4_init_12 : decode cX4_init 12 = .ok (.putfield 12, 3) := by decide +kernel
theorem dX4_init_15 : decode cX4_init 15 = .ok (.aload_n 0, 1) := by decide +kernel
theorem dX4_init_16 : decode cX4_init 16 = .ok (.new 18, 3) := by decide +kernel
theorem dX4_init_19 : decode cX4_init 19 = .ok (.dup, 1) := by decide +kernel
theorem dX4_init_20 : decode cX4_init 20 = .ok (.invokespecial 20, 3) := by decide +kernel
theorem dX4_init_23 : decode cX4_init 23 = .ok (.putfield 21, 3) := by decide +kernel
theorem dX4_init_26 : decode cX4_init 26 = .ok (.aload_n 0, 1) := by decide +kernel
theorem dX4_init_27 : decode cX4_init 27 = .ok (.new 25, 3) := by decide +kernel
theorem dX4_init_30 : decode cX4_init 30 = .ok (.dup, 1) := by decide +kernel
theorem dX4_init_31 : decode cX4_init 31 = .ok (.iconst 1, 1) := by decide +kernel
theorem dX4_init_32 : decode cX4_init 32 = .ok (.invokespecial 29, 3) := by decide +kernel
theorem dX4_init_35 : decode cX4_init 35 = .ok (.putfield 32, 3) := by decide +kernel
theorem dX4_init_38 : decode cX4_init 38 = .ok (.aload_n 0, 1) := by decide +kernel
theorem dX4_init_39 : decode cX4_init 39 = .ok (.new 25, 3) := by decide +kernel
theorem dX4_init_42 : decode cX4_init 42 = .ok (.dup, 1) := by decide +kernel
theorem dX4_init_43 : decode cX4_init 43 = .ok (.iconst 2, 1) := by decide +kernel
theorem dX4_init_44 : decode cX4_init 44 = .ok (.invokespecial 29, 3) := by decide +kernel
theorem dX4_init_47 : decode cX4_init 47 = .ok (.putfield 36, 3) := by decide +kernel
theorem dX4_init_50 : decode cX4_init 50 = .ok (.aload_n 0, 1) := by decide +kernel
theorem dX4_init_51 : decode cX4_init 51 = .ok (.new 39, 3) := by decide +kernel
theorem dX4_init_54 : decode cX4_init 54 = .ok (.dup, 1) := by decide +kernel
theorem dX4_init_55 : decode cX4_init 55 = .ok (.invokespecial 41, 3) := by decide +kernel
theorem dX4_init_58 : decode cX4_init 58 = .ok (.putfield 42, 3) := by decide +kernel
theorem dX4_init_61 : decode cX4_init 61 = .ok (.aload_n 0, 1) := by decide +kernel
theorem dX4_init_62 : decode cX4_init 62 = .ok (.new 39, 3) := by decide +kernel
theorem dX4_init_65 : decode cX4_init 65 = .ok (.dup, 1) := by decide +kernel
theorem dX4_init_66 : decode cX4_init 66 = .ok (.invokespecial 41, 3) := by decide +kernel
theorem dX4_init_69 : decode cX4_init 69 = .ok (.putfield 46, 3) := by decide +kernel
theorem dX4_init_72 : decode cX4_init 72 = .ok (.aload_n 0, 1) := by decide +kernel
theorem dX4_init_73 : decode cX4_init 73 = .ok (.new 39, 3) := by decide +kernel
theorem dX4_init_76 : decode cX4_init 76 = .ok (.dup, 1) := by decide +kernel
theorem dX4_init_77 : decode cX4_init 77 = .ok (.invokespecial 41, 3) := by decide +kernel
theorem dX4_init_80 : decode cX4_init 80 = .ok (.putfield 49, 3) := by decide +kernel
theorem dX4_init_83 : decode cX4_init 83 = .ok (.aload_n 0, 1) := by decide +kernel
theorem dX4_init_84 : decode cX4_init 84 = .ok (.iconst 0, 1) := by decide +kernel
theorem dX4_init_85 : decode cX4_init 85 = .ok (.putfield 52, 3) := by decide +kernel
theorem dX4_init_88 : decode cX4_init 88 = .ok (.aload_n 0, 1) := by decide +kernel
theorem dX4_init_89 : decode cX4_init 89 = .ok (.iconst 0, 1) := by decide +kernel
theorem dX4_init_90 : decode cX4_init 90 = .ok (.putfield 56, 3) := by decide +kernel
theorem dX4_init_93 : decode cX4_init 93 = .ok (.aload_n 0, 1) := by decide +kernel
theorem dX4_init_94 : decode cX4_init 94 = .ok (.iconst 0, 1) := by decide +kernel
theorem dX4_init_95 : decode cX4_init 95 = .ok (.putfield 59, 3) := by decide +kernel
theorem dX4_init_98 : decode cX4_init 98 = .ok (.aload_n 0, 1) := by decide +kernel
theorem dX4_init_99 : decode cX4_init 99 = .ok (.iconst 0, 1) := by decide +kernel
theorem dX4_init_100 : decode cX4_init 100 = .ok (.putfield 62, 3) := by decide +kernel
theorem dX4_init_103 : decode cX4_init 103 = .ok (.aload_n 0, 1) := by decide +kernel
theorem dX4_init_104 : decode cX4_init 104 = .ok (.iload_n 1, 1) := by decide +kernel
theorem dX4_init_105 : decode cX4_init 105 = .ok (.putfield 65, 3) := by decide +kernel
theorem dX4_init_108 : decode cX4_init 108 = .ok (.return_, 1) := by decide +kernel
theorem dX4_finds_0 : decode cX4_finds 0 = .ok (.aload_n 0, 1) := by decide +kernel
theorem dX4_finds_1 : decode cX4_finds 1 = .ok (.aload_n 0, 1) := by decide +kernel
theorem dX4_finds_2 : decode cX4_finds 2 = .ok (.getfield 65, 3) := by decide +kernel
theorem dX4_finds_5 : decode cX4_finds 5 = .ok (.invokevirtual 68, 3) := by decide +kernel
theorem dX4_finds_8 : decode cX4_finds 8 = .ok (.areturn, 1) := by decide +kernel
theorem dX4_findsBy_0 : decode cX4_findsBy 0 = .ok (.iload_n 1, 1) := by decide +kernel
theorem dX4_findsBy_1 : decode cX4_findsBy 1 = .ok (.iconst 2, 1) := by decide +kernel
theorem dX4_findsBy_2 : decode cX4_findsBy 2 = .ok (.if_icmp .ne 10, 3) := by decide +kernel
theorem dX4_findsBy_5 : decode cX4_findsBy 5 = .ok (.aload_n 0, 1) := by decide +kernel
theorem dX4_findsBy_6 : decode cX4_findsBy 6 = .ok (.getfield 36, 3) := by decide +kernel
theorem dX4_findsBy_9 : decode cX4_findsBy 9 = .ok (.goto 7, 3) := by decide +kernel
theorem dX4_findsBy_12 : decode cX4_findsBy 12 = .ok (.aload_n 0, 1) := by decide +kernel
theorem dX4_findsBy_13 : decode cX4_findsBy 13 = .ok (.getfield 32, 3) := by decide +kernel
theorem dX4_findsBy_16 : decode cX4_findsBy 16 = .ok (.areturn, 1) := by decide +kernel
theorem dX4_turnAt_0 : decode cX4_turnAt 0 = .ok (.aload_n 0, 1) := by decide +kernel
theorem dX4_turnAt_1 : decode cX4_turnAt 1 = .ok (.getfield 62, 3) := by decide +kernel
theorem dX4_turnAt_4 : decode cX4_turnAt 4 = .ok (.iload_n 1, 1) := by decide +kernel
theorem dX4_turnAt_5 : decode cX4_turnAt 5 = .ok (.iadd, 1) := by decide +kernel
theorem dX4_turnAt_6 : decode cX4_turnAt 6 = .ok (.iconst 3, 1) := by decide +kernel
theorem dX4_turnAt_7 : decode cX4_turnAt 7 = .ok (.invokestatic 72, 3) := by decide +kernel
theorem dX4_turnAt_10 : decode cX4_turnAt 10 = .ok (.lookupswitch 36 #[(0, 26), (1, 31)], 26) := by decide +kernel
theorem dX4_turnAt_36 : decode cX4_turnAt 36 = .ok (.aload_n 0, 1) := by decide +kernel
theorem dX4_turnAt_37 : decode cX4_turnAt 37 = .ok (.getfield 42, 3) := by decide +kernel
theorem dX4_turnAt_40 : decode cX4_turnAt 40 = .ok (.areturn, 1) := by decide +kernel
theorem dX4_turnAt_41 : decode cX4_turnAt 41 = .ok (.aload_n 0, 1) := by decide +kernel
theorem dX4_turnAt_42 : decode cX4_turnAt 42 = .ok (.getfield 46, 3) := by decide +kernel
theorem dX4_turnAt_45 : decode cX4_turnAt 45 = .ok (.areturn, 1) := by decide +kernel
theorem dX4_turnAt_46 : decode cX4_turnAt 46 = .ok (.aload_n 0, 1) := by decide +kernel
theorem dX4_turnAt_47 : decode cX4_turnAt 47 = .ok (.getfield 49, 3) := by decide +kernel
theorem dX4_turnAt_50 : decode cX4_turnAt 50 = .ok (.areturn, 1) := by decide +kernel
theorem dX4_latestTurn_0 : decode cX4_latestTurn 0 = .ok (.aload_n 0, 1) := by decide +kernel
theorem dX4_latestTurn_1 : decode cX4_latestTurn 1 = .ok (.aload_n 0, 1) := by decide +kernel
theorem dX4_latestTurn_2 : decode cX4_latestTurn 2 = .ok (.getfield 52, 3) := by decide +kernel
theorem dX4_latestTurn_5 : decode cX4_latestTurn 5 = .ok (.iconst 1, 1) := by decide +kernel
theorem dX4_latestTurn_6 : decode cX4_latestTurn 6 = .ok (.isub, 1) := by decide +kernel
theorem dX4_latestTurn_7 : decode cX4_latestTurn 7 = .ok (.invokevirtual 78, 3) := by decide +kernel
theorem dX4_latestTurn_10 : decode cX4_latestTurn 10 = .ok (.areturn, 1) := by decide +kernel
theorem dX4_nextTurn_0 : decode cX4_nextTurn 0 = .ok (.aload_n 0, 1) := by decide +kernel
theorem dX4_nextTurn_1 : decode cX4_nextTurn 1 = .ok (.getfield 52, 3) := by decide +kernel
theorem dX4_nextTurn_4 : decode cX4_nextTurn 4 = .ok (.iconst 3, 1) := by decide +kernel
theorem dX4_nextTurn_5 : decode cX4_nextTurn 5 = .ok (.if_icmp .ge 16, 3) := by decide +kernel
theorem dX4_nextTurn_8 : decode cX4_nextTurn 8 = .ok (.aload_n 0, 1) := by decide +kernel
theorem dX4_nextTurn_9 : decode cX4_nextTurn 9 = .ok (.dup, 1) := by decide +kernel
theorem dX4_nextTurn_10 : decode cX4_nextTurn 10 = .ok (.getfield 52, 3) := by decide +kernel
theorem dX4_nextTurn_13 : decode cX4_nextTurn 13 = .ok (.iconst 1, 1) := by decide +kernel
theorem dX4_nextTurn_14 : decode cX4_nextTurn 14 = .ok (.iadd, 1) := by decide +kernel
theorem dX4_nextTurn_15 : decode cX4_nextTurn 15 = .ok (.putfield 52, 3) := by decide +kernel
theorem dX4_nextTurn_18 : decode cX4_nextTurn 18 = .ok (.goto 15, 3) := by decide +kernel
theorem dX4_nextTurn_21 : decode cX4_nextTurn 21 = .ok (.aload_n 0, 1) := by decide +kernel
theorem dX4_nextTurn_22 : decode cX4_nextTurn 22 = .ok (.aload_n 0, 1) := by decide +kernel
theorem dX4_nextTurn_23 : decode cX4_nextTurn 23 = .ok (.getfield 62, 3) := by decide +kernel
theorem dX4_nextTurn_26 : decode cX4_nextTurn 26 = .ok (.iconst 1, 1) := by decide +kernel
theorem dX4_nextTurn_27 : decode cX4_nextTurn 27 = .ok (.iadd, 1) := by decide +kernel
theorem dX4_nextTurn_28 : decode cX4_nextTurn 28 = .ok (.iconst 3, 1) := by decide +kernel
theorem dX4_nextTurn_29 : decode cX4_nextTurn 29 = .ok (.irem, 1) := by decide +kernel
theorem dX4_nextTurn_30 : decode cX4_nextTurn 30 = .ok (.putfield 62, 3) := by decide +kernel
theorem dX4_nextTurn_33 : decode cX4_nextTurn 33 = .ok (.aload_n 0, 1) := by decide +kernel
theorem dX4_nextTurn_34 : decode cX4_nextTurn 34 = .ok (.invokevirtual 82, 3) := by decide +kernel
theorem dX4_nextTurn_37 : decode cX4_nextTurn 37 = .ok (.areturn, 1) := by decide +kernel
theorem dX4_takeTurn_0 : decode cX4_takeTurn 0 = .ok (.iload_n 1, 1) := by decide +kernel
theorem dX4_takeTurn_1 : decode cX4_takeTurn 1 = .ok (.istore_n 2, 1) := by decide +kernel
theorem dX4_takeTurn_2 : decode cX4_takeTurn 2 = .ok (.iconst 0, 1) := by decide +kernel
theorem dX4_takeTurn_3 : decode cX4_takeTurn 3 = .ok (.istore_n 3, 1) := by decide +kernel
theorem dX4_takeTurn_4 : decode cX4_takeTurn 4 = .ok (.aload_n 0, 1) := by decide +kernel
theorem dX4_takeTurn_5 : decode cX4_takeTurn 5 = .ok (.invokevirtual 86, 3) := by decide +kernel
theorem dX4_takeTurn_8 : decode cX4_takeTurn 8 = .ok (.astore 4, 2) := by decide +kernel
theorem dX4_takeTurn_10 : decode cX4_takeTurn 10 = .ok (.aload 4, 2) := by decide +kernel
theorem dX4_takeTurn_12 : decode cX4_takeTurn 12 = .ok (.invokevirtual 89, 3) := by decide +kernel
theorem dX4_takeTurn_15 : decode cX4_takeTurn 15 = .ok (.iconst 0, 1) := by decide +kernel
theorem dX4_takeTurn_16 : decode cX4_takeTurn 16 = .ok (.istore 5, 2) := by decide +kernel
theorem dX4_takeTurn_18 : decode cX4_takeTurn 18 = .ok (.iload 5, 2) := by decide +kernel
theorem dX4_takeTurn_20 : decode cX4_takeTurn 20 = .ok (.aload_n 0, 1) := by decide +kernel
theorem dX4_takeTurn_21 : decode cX4_takeTurn 21 = .ok (.getfield 12, 3) := by decide +kernel
theorem dX4_takeTurn_24 : decode cX4_takeTurn 24 = .ok (.getfield 92, 3) := by decide +kernel
theorem dX4_takeTurn_27 : decode cX4_takeTurn 27 = .ok (.if_icmp .ge 89, 3) := by decide +kernel
theorem dX4_takeTurn_30 : decode cX4_takeTurn 30 = .ok (.aload_n 0, 1) := by decide +kernel
theorem dX4_takeTurn_31 : decode cX4_takeTurn 31 = .ok (.getfield 12, 3) := by decide +kernel
theorem dX4_takeTurn_34 : decode cX4_takeTurn 34 = .ok (.iload 5, 2) := by decide +kernel
theorem dX4_takeTurn_36 : decode cX4_takeTurn 36 = .ok (.invokevirtual 95, 3) := by decide +kernel
theorem dX4_takeTurn_39 : decode cX4_takeTurn 39 = .ok (.istore 6, 2) := by decide +kernel
theorem dX4_takeTurn_41 : decode cX4_takeTurn 41 = .ok (.aload_n 0, 1) := by decide +kernel
theorem dX4_takeTurn_42 : decode cX4_takeTurn 42 = .ok (.getfield 12, 3) := by decide +kernel
theorem dX4_takeTurn_45 : decode cX4_takeTurn 45 = .ok (.iload 5, 2) := by decide +kernel
theorem dX4_takeTurn_47 : decode cX4_takeTurn 47 = .ok (.invokevirtual 99, 3) := by decide +kernel
theorem dX4_takeTurn_50 : decode cX4_takeTurn 50 = .ok (.ifCond .eq 26, 3) := by decide +kernel
theorem dX4_takeTurn_53 : decode cX4_takeTurn 53 = .ok (.iconst 5, 1) := by decide +kernel
theorem dX4_takeTurn_54 : decode cX4_takeTurn 54 = .ok (.iload_n 2, 1) := by decide +kernel
theorem dX4_takeTurn_55 : decode cX4_takeTurn 55 = .ok (.imul, 1) := by decide +kernel
theorem dX4_takeTurn_56 : decode cX4_takeTurn 56 = .ok (.bipush 7, 2) := by decide +kernel
theorem dX4_takeTurn_58 : decode cX4_takeTurn 58 = .ok (.iadd, 1) := by decide +kernel
theorem dX4_takeTurn_59 : decode cX4_takeTurn 59 = .ok (.bipush 16, 2) := by decide +kernel
theorem dX4_takeTurn_61 : decode cX4_takeTurn 61 = .ok (.irem, 1) := by decide +kernel
theorem dX4_takeTurn_62 : decode cX4_takeTurn 62 = .ok (.istore_n 2, 1) := by decide +kernel
theorem dX4_takeTurn_63 : decode cX4_takeTurn 63 = .ok (.iload_n 2, 1) := by decide +kernel
theorem dX4_takeTurn_64 : decode cX4_takeTurn 64 = .ok (.bipush 7, 2) := by decide +kernel
theorem dX4_takeTurn_66 : decode cX4_takeTurn 66 = .ok (.if_icmp .le 7, 3) := by decide +kernel
theorem dX4_takeTurn_69 : decode cX4_takeTurn 69 = .ok (.iconst 1, 1) := by decide +kernel
theorem dX4_takeTurn_70 : decode cX4_takeTurn 70 = .ok (.goto 4, 3) := by decide +kernel
theorem dX4_takeTurn_73 : decode cX4_takeTurn 73 = .ok (.iconst 0, 1) := by decide +kernel
theorem dX4_takeTurn_74 : decode cX4_takeTurn 74 = .ok (.istore 6, 2) := by decide +kernel
theorem dX4_takeTurn_76 : decode cX4_takeTurn 76 = .ok (.iload_n 3, 1) := by decide +kernel
theorem dX4_takeTurn_77 : decode cX4_takeTurn 77 = .ok (.aload_n 0, 1) := by decide +kernel
theorem dX4_takeTurn_78 : decode cX4_takeTurn 78 = .ok (.getfield 12, 3) := by decide +kernel
theorem dX4_takeTurn_81 : decode cX4_takeTurn 81 = .ok (.iload 5, 2) := by decide +kernel
theorem dX4_takeTurn_83 : decode cX4_takeTurn 83 = .ok (.invokevirtual 102, 3) := by decide +kernel
theorem dX4_takeTurn_86 : decode cX4_takeTurn 86 = .ok (.iadd, 1) := by decide +kernel
theorem dX4_takeTurn_87 : decode cX4_takeTurn 87 = .ok (.istore_n 3, 1) := by decide +kernel
theorem dX4_takeTurn_88 : decode cX4_takeTurn 88 = .ok (.iload 6, 2) := by decide +kernel
theorem dX4_takeTurn_90 : decode cX4_takeTurn 90 = .ok (.ifCond .eq 11, 3) := by decide +kernel
theorem dX4_takeTurn_93 : decode cX4_takeTurn 93 = .ok (.aload 4, 2) := by decide +kernel
theorem dX4_takeTurn_95 : decode cX4_takeTurn 95 = .ok (.iload_n 3, 1) := by decide +kernel
theorem dX4_takeTurn_96 : decode cX4_takeTurn 96 = .ok (.invokevirtual 106, 3) := by decide +kernel
theorem dX4_takeTurn_99 : decode cX4_takeTurn 99 = .ok (.iconst 0, 1) := by decide +kernel
theorem dX4_takeTurn_100 : decode cX4_takeTurn 100 = .ok (.istore_n 3, 1) := by decide +kernel
theorem dX4_takeTurn_101 : decode cX4_takeTurn 101 = .ok (.aload_n 0, 1) := by decide +kernel
theorem dX4_takeTurn_102 : decode cX4_takeTurn 102 = .ok (.getfield 12, 3) := by decide +kernel
theorem dX4_takeTurn_105 : decode cX4_takeTurn 105 = .ok (.iload 5, 2) := by decide +kernel
theorem dX4_takeTurn_107 : decode cX4_takeTurn 107 = .ok (.invokevirtual 109, 3) := by decide +kernel
theorem dX4_takeTurn_110 : decode cX4_takeTurn 110 = .ok (.iinc 5 1, 3) := by decide +kernel
theorem dX4_takeTurn_113 : decode cX4_takeTurn 113 = .ok (.goto (-95), 3) := by decide +kernel
theorem dX4_takeTurn_116 : decode cX4_takeTurn 116 = .ok (.aload_n 0, 1) := by decide +kernel
theorem dX4_takeTurn_117 : decode cX4_takeTurn 117 = .ok (.dup, 1) := by decide +kernel
theorem dX4_takeTurn_118 : decode cX4_takeTurn 118 = .ok (.getfield 59, 3) := by decide +kernel
theorem dX4_takeTurn_121 : decode cX4_takeTurn 121 = .ok (.iconst 1, 1) := by decide +kernel
theorem dX4_takeTurn_122 : decode cX4_takeTurn 122 = .ok (.iadd, 1) := by decide +kernel
theorem dX4_takeTurn_123 : decode cX4_takeTurn 123 = .ok (.putfield 59, 3) := by decide +kernel
theorem dX4_takeTurn_126 : decode cX4_takeTurn 126 = .ok (.iload_n 2, 1) := by decide +kernel
theorem dX4_takeTurn_127 : decode cX4_takeTurn 127 = .ok (.ireturn, 1) := by decide +kernel
theorem dX4_tellTogether_0 : decode cX4_tellTogether 0 = .ok (.aload_n 0, 1) := by decide +kernel
theorem dX4_tellTogether_1 : decode cX4_tellTogether 1 = .ok (.getfield 52, 3) := by decide +kernel
theorem dX4_tellTogether_4 : decode cX4_tellTogether 4 = .ok (.ifCond .ne 7, 3) := by decide +kernel
theorem dX4_tellTogether_7 : decode cX4_tellTogether 7 = .ok (.iconst 0, 1) := by decide +kernel
theorem dX4_tellTogether_8 : decode cX4_tellTogether 8 = .ok (.goto 6, 3) := by decide +kernel
theorem dX4_tellTogether_11 : decode cX4_tellTogether 11 = .ok (.sipush 400, 3) := by decide +kernel
theorem dX4_tellTogether_14 : decode cX4_tellTogether 14 = .ok (.istore_n 1, 1) := by decide +kernel
theorem dX4_tellTogether_15 : decode cX4_tellTogether 15 = .ok (.iconst 0, 1) := by decide +kernel
theorem dX4_tellTogether_16 : decode cX4_tellTogether 16 = .ok (.istore_n 2, 1) := by decide +kernel
theorem dX4_tellTogether_17 : decode cX4_tellTogether 17 = .ok (.iconst 0, 1) := by decide +kernel
theorem dX4_tellTogether_18 : decode cX4_tellTogether 18 = .ok (.istore_n 3, 1) := by decide +kernel
theorem dX4_tellTogether_19 : decode cX4_tellTogether 19 = .ok (.iload_n 3, 1) := by decide +kernel
theorem dX4_tellTogether_20 : decode cX4_tellTogether 20 = .ok (.aload_n 0, 1) := by decide +kernel
theorem dX4_tellTogether_21 : decode cX4_tellTogether 21 = .ok (.getfield 52, 3) := by decide +kernel
theorem dX4_tellTogether_24 : decode cX4_tellTogether 24 = .ok (.if_icmp .ge 41, 3) := by decide +kernel
theorem dX4_tellTogether_27 : decode cX4_tellTogether 27 = .ok (.iload_n 1, 1) := by decide +kernel
theorem dX4_tellTogether_28 : decode cX4_tellTogether 28 = .ok (.aload_n 0, 1) := by decide +kernel
theorem dX4_tellTogether_29 : decode cX4_tellTogether 29 = .ok (.iload_n 3, 1) := by decide +kernel
theorem dX4_tellTogether_30 : decode cX4_tellTogether 30 = .ok (.invokevirtual 78, 3) := by decide +kernel
theorem dX4_tellTogether_33 : decode cX4_tellTogether 33 = .ok (.getfield 112, 3) := by decide +kernel
theorem dX4_tellTogether_36 : decode cX4_tellTogether 36 = .ok (.getfield 115, 3) := by decide +kernel
theorem dX4_tellTogether_39 : decode cX4_tellTogether 39 = .ok (.invokestatic 116, 3) := by decide +kernel
theorem dX4_tellTogether_42 : decode cX4_tellTogether 42 = .ok (.istore_n 1, 1) := by decide +kernel
theorem dX4_tellTogether_43 : decode cX4_tellTogether 43 = .ok (.iload_n 2, 1) := by decide +kernel
theorem dX4_tellTogether_44 : decode cX4_tellTogether 44 = .ok (.aload_n 0, 1) := by decide +kernel
theorem dX4_tellTogether_45 : decode cX4_tellTogether 45 = .ok (.iload_n 3, 1) := by decide +kernel
theorem dX4_tellTogether_46 : decode cX4_tellTogether 46 = .ok (.invokevirtual 78, 3) := by decide +kernel
theorem dX4_tellTogether_49 : decode cX4_tellTogether 49 = .ok (.getfield 112, 3) := by decide +kernel
theorem dX4_tellTogether_52 : decode cX4_tellTogether 52 = .ok (.getfield 115, 3) := by decide +kernel
theorem dX4_tellTogether_55 : decode cX4_tellTogether 55 = .ok (.invokestatic 119, 3) := by decide +kernel
theorem dX4_tellTogether_58 : decode cX4_tellTogether 58 = .ok (.istore_n 2, 1) := by decide +kernel
theorem dX4_tellTogether_59 : decode cX4_tellTogether 59 = .ok (.iinc 3 1, 3) := by decide +kernel
theorem dX4_tellTogether_62 : decode cX4_tellTogether 62 = .ok (.goto (-43), 3) := by decide +kernel
theorem dX4_tellTogether_65 : decode cX4_tellTogether 65 = .ok (.aload_n 0, 1) := by decide +kernel
theorem dX4_tellTogether_66 : decode cX4_tellTogether 66 = .ok (.getfield 21, 3) := by decide +kernel
theorem dX4_tellTogether_69 : decode cX4_tellTogether 69 = .ok (.invokevirtual 122, 3) := by decide +kernel
theorem dX4_tellTogether_72 : decode cX4_tellTogether 72 = .ok (.aload_n 0, 1) := by decide +kernel
theorem dX4_tellTogether_73 : decode cX4_tellTogether 73 = .ok (.iload_n 2, 1) := by decide +kernel
theorem dX4_tellTogether_74 : decode cX4_tellTogether 74 = .ok (.iload_n 1, 1) := by decide +kernel
theorem dX4_tellTogether_75 : decode cX4_tellTogether 75 = .ok (.isub, 1) := by decide +kernel
theorem dX4_tellTogether_76 : decode cX4_tellTogether 76 = .ok (.putfield 56, 3) := by decide +kernel
theorem dX4_tellTogether_79 : decode cX4_tellTogether 79 = .ok (.iconst 0, 1) := by decide +kernel
theorem dX4_tellTogether_80 : decode cX4_tellTogether 80 = .ok (.istore_n 3, 1) := by decide +kernel
theorem dX4_tellTogether_81 : decode cX4_tellTogether 81 = .ok (.iload_n 3, 1) := by decide +kernel
theorem dX4_tellTogether_82 : decode cX4_tellTogether 82 = .ok (.iload_n 1, 1) := by decide +kernel
theorem dX4_tellTogether_83 : decode cX4_tellTogether 83 = .ok (.if_icmp .ge 95, 3) := by decide +kernel
theorem dX4_tellTogether_86 : decode cX4_tellTogether 86 = .ok (.aload_n 0, 1) := by decide +kernel
theorem dX4_tellTogether_87 : decode cX4_tellTogether 87 = .ok (.iload_n 3, 1) := by decide +kernel
theorem dX4_tellTogether_88 : decode cX4_tellTogether 88 = .ok (.invokevirtual 125, 3) := by decide +kernel
theorem dX4_tellTogether_91 : decode cX4_tellTogether 91 = .ok (.istore 4, 2) := by decide +kernel
theorem dX4_tellTogether_93 : decode cX4_tellTogether 93 = .ok (.iload 4, 2) := by decide +kernel
theorem dX4_tellTogether_95 : decode cX4_tellTogether 95 = .ok (.ifCond .eq 22, 3) := by decide +kernel
theorem dX4_tellTogether_98 : decode cX4_tellTogether 98 = .ok (.iload 4, 2) := by decide +kernel
theorem dX4_tellTogether_100 : decode cX4_tellTogether 100 = .ok (.aload_n 0, 1) := by decide +kernel
theorem dX4_tellTogether_101 : decode cX4_tellTogether 101 = .ok (.getfield 52, 3) := by decide +kernel
theorem dX4_tellTogether_104 : decode cX4_tellTogether 104 = .ok (.if_icmp .eq 13, 3) := by decide +kernel
theorem dX4_tellTogether_107 : decode cX4_tellTogether 107 = .ok (.aload_n 0, 1) := by decide +kernel
theorem dX4_tellTogether_108 : decode cX4_tellTogether 108 = .ok (.dup, 1) := by decide +kernel
theorem dX4_tellTogether_109 : decode cX4_tellTogether 109 = .ok (.getfield 56, 3) := by decide +kernel
theorem dX4_tellTogether_112 : decode cX4_tellTogether 112 = .ok (.iconst 1, 1) := by decide +kernel
theorem dX4_tellTogether_113 : decode cX4_tellTogether 113 = .ok (.iadd, 1) := by decide +kernel
theorem dX4_tellTogether_114 : decode cX4_tellTogether 114 = .ok (.putfield 56, 3) := by decide +kernel
theorem dX4_tellTogether_117 : decode cX4_tellTogether 117 = .ok (.iconst 2, 1) := by decide +kernel
theorem dX4_tellTogether_118 : decode cX4_tellTogether 118 = .ok (.iload 4, 2) := by decide +kernel
theorem dX4_tellTogether_120 : decode cX4_tellTogether 120 = .ok (.imul, 1) := by decide +kernel
theorem dX4_tellTogether_121 : decode cX4_tellTogether 121 = .ok (.aload_n 0, 1) := by decide +kernel
theorem dX4_tellTogether_122 : decode cX4_tellTogether 122 = .ok (.getfield 52, 3) := by decide +kernel
theorem dX4_tellTogether_125 : decode cX4_tellTogether 125 = .ok (.if_icmp .ne 24, 3) := by decide +kernel
theorem dX4_tellTogether_128 : decode cX4_tellTogether 128 = .ok (.aload_n 0, 1) := by decide +kernel
theorem dX4_tellTogether_129 : decode cX4_tellTogether 129 = .ok (.getfield 21, 3) := by decide +kernel
theorem dX4_tellTogether_132 : decode cX4_tellTogether 132 = .ok (.aload_n 0, 1) := by decide +kernel
theorem dX4_tellTogether_133 : decode cX4_tellTogether 133 = .ok (.invokevirtual 82, 3) := by decide +kernel
theorem dX4_tellTogether_136 : decode cX4_tellTogether 136 = .ok (.getfield 112, 3) := by decide +kernel
theorem dX4_tellTogether_139 : decode cX4_tellTogether 139 = .ok (.iload_n 3, 1) := by decide +kernel
theorem dX4_tellTogether_140 : decode cX4_tellTogether 140 = .ok (.invokevirtual 128, 3) := by decide +kernel
theorem dX4_tellTogether_143 : decode cX4_tellTogether 143 = .ok (.invokevirtual 131, 3) := by decide +kernel
theorem dX4_tellTogether_146 : decode cX4_tellTogether 146 = .ok (.goto 26, 3) := by decide +kernel
theorem dX4_tellTogether_149 : decode cX4_tellTogether 149 = .ok (.aload_n 0, 1) := by decide +kernel
theorem dX4_tellTogether_150 : decode cX4_tellTogether 150 = .ok (.getfield 21, 3) := by decide +kernel
theorem dX4_tellTogether_153 : decode cX4_tellTogether 153 = .ok (.iconst 2, 1) := by decide +kernel
theorem dX4_tellTogether_154 : decode cX4_tellTogether 154 = .ok (.iload 4, 2) := by decide +kernel
theorem dX4_tellTogether_156 : decode cX4_tellTogether 156 = .ok (.imul, 1) := by decide +kernel
theorem dX4_tellTogether_157 : decode cX4_tellTogether 157 = .ok (.aload_n 0, 1) := by decide +kernel
theorem dX4_tellTogether_158 : decode cX4_tellTogether 158 = .ok (.getfield 52, 3) := by decide +kernel
theorem dX4_tellTogether_161 : decode cX4_tellTogether 161 = .ok (.if_icmp .le 7, 3) := by decide +kernel
theorem dX4_tellTogether_164 : decode cX4_tellTogether 164 = .ok (.iconst 1, 1) := by decide +kernel
theorem dX4_tellTogether_165 : decode cX4_tellTogether 165 = .ok (.goto 4, 3) := by decide +kernel
theorem dX4_tellTogether_168 : decode cX4_tellTogether 168 = .ok (.iconst 0, 1) := by decide +kernel
theorem dX4_tellTogether_169 : decode cX4_tellTogether 169 = .ok (.invokevirtual 131, 3) := by decide +kernel
theorem dX4_tellTogether_172 : decode cX4_tellTogether 172 = .ok (.iinc 3 1, 3) := by decide +kernel
theorem dX4_tellTogether_175 : decode cX4_tellTogether 175 = .ok (.goto (-94), 3) := by decide +kernel
theorem dX4_tellTogether_178 : decode cX4_tellTogether 178 = .ok (.aload_n 0, 1) := by decide +kernel
theorem dX4_tellTogether_179 : decode cX4_tellTogether 179 = .ok (.getfield 32, 3) := by decide +kernel
theorem dX4_tellTogether_182 : decode cX4_tellTogether 182 = .ok (.aload_n 0, 1) := by decide +kernel
theorem dX4_tellTogether_183 : decode cX4_tellTogether 183 = .ok (.getfield 21, 3) := by decide +kernel
theorem dX4_tellTogether_186 : decode cX4_tellTogether 186 = .ok (.invokevirtual 134, 3) := by decide +kernel
theorem dX4_tellTogether_189 : decode cX4_tellTogether 189 = .ok (.aload_n 0, 1) := by decide +kernel
theorem dX4_tellTogether_190 : decode cX4_tellTogether 190 = .ok (.getfield 36, 3) := by decide +kernel
theorem dX4_tellTogether_193 : decode cX4_tellTogether 193 = .ok (.aload_n 0, 1) := by decide +kernel
theorem dX4_tellTogether_194 : decode cX4_tellTogether 194 = .ok (.getfield 21, 3) := by decide +kernel
theorem dX4_tellTogether_197 : decode cX4_tellTogether 197 = .ok (.invokevirtual 134, 3) := by decide +kernel
theorem dX4_tellTogether_200 : decode cX4_tellTogether 200 = .ok (.return_, 1) := by decide +kernel
theorem dX4_onesAt_0 : decode cX4_onesAt 0 = .ok (.iconst 0, 1) := by decide +kernel
theorem dX4_onesAt_1 : decode cX4_onesAt 1 = .ok (.istore_n 2, 1) := by decide +kernel
theorem dX4_onesAt_2 : decode cX4_onesAt 2 = .ok (.iconst 0, 1) := by decide +kernel
theorem dX4_onesAt_3 : decode cX4_onesAt 3 = .ok (.istore_n 3, 1) := by decide +kernel
theorem dX4_onesAt_4 : decode cX4_onesAt 4 = .ok (.iload_n 3, 1) := by decide +kernel
theorem dX4_onesAt_5 : decode cX4_onesAt 5 = .ok (.aload_n 0, 1) := by decide +kernel
theorem dX4_onesAt_6 : decode cX4_onesAt 6 = .ok (.getfield 52, 3) := by decide +kernel
theorem dX4_onesAt_9 : decode cX4_onesAt 9 = .ok (.if_icmp .ge 24, 3) := by decide +kernel
theorem dX4_onesAt_12 : decode cX4_onesAt 12 = .ok (.iload_n 2, 1) := by decide +kernel
theorem dX4_onesAt_13 : decode cX4_onesAt 13 = .ok (.aload_n 0, 1) := by decide +kernel
theorem dX4_onesAt_14 : decode cX4_onesAt 14 = .ok (.iload_n 3, 1) := by decide +kernel
theorem dX4_onesAt_15 : decode cX4_onesAt 15 = .ok (.invokevirtual 78, 3) := by decide +kernel
theorem dX4_onesAt_18 : decode cX4_onesAt 18 = .ok (.getfield 112, 3) := by decide +kernel
theorem dX4_onesAt_21 : decode cX4_onesAt 21 = .ok (.iload_n 1, 1) := by decide +kernel
theorem dX4_onesAt_22 : decode cX4_onesAt 22 = .ok (.invokevirtual 128, 3) := by decide +kernel
theorem dX4_onesAt_25 : decode cX4_onesAt 25 = .ok (.iadd, 1) := by decide +kernel
theorem dX4_onesAt_26 : decode cX4_onesAt 26 = .ok (.istore_n 2, 1) := by decide +kernel
theorem dX4_onesAt_27 : decode cX4_onesAt 27 = .ok (.iinc 3 1, 3) := by decide +kernel
theorem dX4_onesAt_30 : decode cX4_onesAt 30 = .ok (.goto (-26), 3) := by decide +kernel
theorem dX4_onesAt_33 : decode cX4_onesAt 33 = .ok (.iload_n 2, 1) := by decide +kernel
theorem dX4_onesAt_34 : decode cX4_onesAt 34 = .ok (.ireturn, 1) := by decide +kernel
theorem dX4_guards_0 : decode cX4_guards 0 = .ok (.aload_n 0, 1) := by decide +kernel
theorem dX4_guards_1 : decode cX4_guards 1 = .ok (.invokevirtual 138, 3) := by decide +kernel
theorem dX4_guards_4 : decode cX4_guards 4 = .ok (.astore_n 1, 1) := by decide +kernel
theorem dX4_guards_5 : decode cX4_guards 5 = .ok (.aload_n 1, 1) := by decide +kernel
theorem dX4_guards_6 : decode cX4_guards 6 = .ok (.getfield 142, 3) := by decide +kernel
theorem dX4_guards_9 : decode cX4_guards 9 = .ok (.aload_n 1, 1) := by decide +kernel
theorem dX4_guards_10 : decode cX4_guards 10 = .ok (.getfield 145, 3) := by decide +kernel
theorem dX4_guards_13 : decode cX4_guards 13 = .ok (.if_icmp .ge 7, 3) := by decide +kernel
theorem dX4_guards_16 : decode cX4_guards 16 = .ok (.iconst 1, 1) := by decide +kernel
theorem dX4_guards_17 : decode cX4_guards 17 = .ok (.goto 4, 3) := by decide +kernel
theorem dX4_guards_20 : decode cX4_guards 20 = .ok (.iconst 0, 1) := by decide +kernel
theorem dX4_guards_21 : decode cX4_guards 21 = .ok (.istore_n 2, 1) := by decide +kernel
theorem dX4_guards_22 : decode cX4_guards 22 = .ok (.iload_n 2, 1) := by decide +kernel
theorem dX4_guards_23 : decode cX4_guards 23 = .ok (.aload_n 1, 1) := by decide +kernel
theorem dX4_guards_24 : decode cX4_guards 24 = .ok (.invokevirtual 148, 3) := by decide +kernel
theorem dX4_guards_27 : decode cX4_guards 27 = .ok (.ifCond .eq 7, 3) := by decide +kernel
theorem dX4_guards_30 : decode cX4_guards 30 = .ok (.iconst 2, 1) := by decide +kernel
theorem dX4_guards_31 : decode cX4_guards 31 = .ok (.goto 4, 3) := by decide +kernel
theorem dX4_guards_34 : decode cX4_guards 34 = .ok (.iconst 0, 1) := by decide +kernel
theorem dX4_guards_35 : decode cX4_guards 35 = .ok (.ior, 1) := by decide +kernel
theorem dX4_guards_36 : decode cX4_guards 36 = .ok (.istore_n 2, 1) := by decide +kernel
theorem dX4_guards_37 : decode cX4_guards 37 = .ok (.iload_n 2, 1) := by decide +kernel
theorem dX4_guards_38 : decode cX4_guards 38 = .ok (.aload_n 0, 1) := by decide +kernel
theorem dX4_guards_39 : decode cX4_guards 39 = .ok (.getfield 56, 3) := by decide +kernel
theorem dX4_guards_42 : decode cX4_guards 42 = .ok (.ifCond .le 7, 3) := by decide +kernel
theorem dX4_guards_45 : decode cX4_guards 45 = .ok (.iconst 4, 1) := by decide +kernel
theorem dX4_guards_46 : decode cX4_guards 46 = .ok (.goto 4, 3) := by decide +kernel
theorem dX4_guards_49 : decode cX4_guards 49 = .ok (.iconst 0, 1) := by decide +kernel
theorem dX4_guards_50 : decode cX4_guards 50 = .ok (.ior, 1) := by decide +kernel
theorem dX4_guards_51 : decode cX4_guards 51 = .ok (.istore_n 2, 1) := by decide +kernel
theorem dX4_guards_52 : decode cX4_guards 52 = .ok (.iload_n 2, 1) := by decide +kernel
theorem dX4_guards_53 : decode cX4_guards 53 = .ok (.aload_n 1, 1) := by decide +kernel
theorem dX4_guards_54 : decode cX4_guards 54 = .ok (.getfield 152, 3) := by decide +kernel
theorem dX4_guards_57 : decode cX4_guards 57 = .ok (.ifCond .le 8, 3) := by decide +kernel
theorem dX4_guards_60 : decode cX4_guards 60 = .ok (.bipush 8, 2) := by decide +kernel
theorem dX4_guards_62 : decode cX4_guards 62 = .ok (.goto 4, 3) := by decide +kernel
theorem dX4_guards_65 : decode cX4_guards 65 = .ok (.iconst 0, 1) := by decide +kernel
theorem dX4_guards_66 : decode cX4_guards 66 = .ok (.ior, 1) := by decide +kernel
theorem dX4_guards_67 : decode cX4_guards 67 = .ok (.istore_n 2, 1) := by decide +kernel
theorem dX4_guards_68 : decode cX4_guards 68 = .ok (.iload_n 2, 1) := by decide +kernel
theorem dX4_guards_69 : decode cX4_guards 69 = .ok (.aload_n 1, 1) := by decide +kernel
theorem dX4_guards_70 : decode cX4_guards 70 = .ok (.getfield 155, 3) := by decide +kernel
theorem dX4_guards_73 : decode cX4_guards 73 = .ok (.ifCond .eq 8, 3) := by decide +kernel
theorem dX4_guards_76 : decode cX4_guards 76 = .ok (.bipush 16, 2) := by decide +kernel
theorem dX4_guards_78 : decode cX4_guards 78 = .ok (.goto 4, 3) := by decide +kernel
theorem dX4_guards_81 : decode cX4_guards 81 = .ok (.iconst 0, 1) := by decide +kernel
theorem dX4_guards_82 : decode cX4_guards 82 = .ok (.ior, 1) := by decide +kernel
theorem dX4_guards_83 : decode cX4_guards 83 = .ok (.istore_n 2, 1) := by decide +kernel
theorem dX4_guards_84 : decode cX4_guards 84 = .ok (.iload_n 2, 1) := by decide +kernel
theorem dX4_guards_85 : decode cX4_guards 85 = .ok (.aload_n 0, 1) := by decide +kernel
theorem dX4_guards_86 : decode cX4_guards 86 = .ok (.getfield 21, 3) := by decide +kernel
theorem dX4_guards_89 : decode cX4_guards 89 = .ok (.getfield 115, 3) := by decide +kernel
theorem dX4_guards_92 : decode cX4_guards 92 = .ok (.sipush 300, 3) := by decide +kernel
theorem dX4_guards_95 : decode cX4_guards 95 = .ok (.if_icmp .le 8, 3) := by decide +kernel
theorem dX4_guards_98 : decode cX4_guards 98 = .ok (.bipush 32, 2) := by decide +kernel
theorem dX4_guards_100 : decode cX4_guards 100 = .ok (.goto 4, 3) := by decide +kernel
theorem dX4_guards_103 : decode cX4_guards 103 = .ok (.iconst 0, 1) := by decide +kernel
theorem dX4_guards_104 : decode cX4_guards 104 = .ok (.ior, 1) := by decide +kernel
theorem dX4_guards_105 : decode cX4_guards 105 = .ok (.istore_n 2, 1) := by decide +kernel
theorem dX4_guards_106 : decode cX4_guards 106 = .ok (.iload_n 2, 1) := by decide +kernel
theorem dX4_guards_107 : decode cX4_guards 107 = .ok (.ireturn, 1) := by decide +kernel
theorem dX4_becomeEmpty_0 : decode cX4_becomeEmpty 0 = .ok (.aload_n 0, 1) := by decide +kernel
theorem dX4_becomeEmpty_1 : decode cX4_becomeEmpty 1 = .ok (.iload_n 1, 1) := by decide +kernel
theorem dX4_becomeEmpty_2 : decode cX4_becomeEmpty 2 = .ok (.putfield 65, 3) := by decide +kernel
theorem dX4_becomeEmpty_5 : decode cX4_becomeEmpty 5 = .ok (.aload_n 0, 1) := by decide +kernel
theorem dX4_becomeEmpty_6 : decode cX4_becomeEmpty 6 = .ok (.getfield 12, 3) := by decide +kernel
theorem dX4_becomeEmpty_9 : decode cX4_becomeEmpty 9 = .ok (.invokevirtual 159, 3) := by decide +kernel
theorem dX4_becomeEmpty_12 : decode cX4_becomeEmpty 12 = .ok (.aload_n 0, 1) := by decide +kernel
theorem dX4_becomeEmpty_13 : decode cX4_becomeEmpty 13 = .ok (.iconst 0, 1) := by decide +kernel
theorem dX4_becomeEmpty_14 : decode cX4_becomeEmpty 14 = .ok (.putfield 52, 3) := by decide +kernel
theorem dX4_becomeEmpty_17 : decode cX4_becomeEmpty 17 = .ok (.aload_n 0, 1) := by decide +kernel
theorem dX4_becomeEmpty_18 : decode cX4_becomeEmpty 18 = .ok (.iconst 0, 1) := by decide +kernel
theorem dX4_becomeEmpty_19 : decode cX4_becomeEmpty 19 = .ok (.putfield 62, 3) := by decide +kernel
theorem dX4_becomeEmpty_22 : decode cX4_becomeEmpty 22 = .ok (.return_, 1) := by decide +kernel
theorem dX4_putRawCopy_0 : decode cX4_putRawCopy 0 = .ok (.iconst 0, 1) := by decide +kernel
theorem dX4_putRawCopy_1 : decode cX4_putRawCopy 1 = .ok (.istore_n 2, 1) := by decide +kernel
theorem dX4_putRawCopy_2 : decode cX4_putRawCopy 2 = .ok (.iload_n 2, 1) := by decide +kernel
theorem dX4_putRawCopy_3 : decode cX4_putRawCopy 3 = .ok (.aload_n 1, 1) := by decide +kernel
theorem dX4_putRawCopy_4 : decode cX4_putRawCopy 4 = .ok (.getfield 115, 3) := by decide +kernel
theorem dX4_putRawCopy_7 : decode cX4_putRawCopy 7 = .ok (.if_icmp .ge 23, 3) := by decide +kernel
theorem dX4_putRawCopy_10 : decode cX4_putRawCopy 10 = .ok (.aload_n 0, 1) := by decide +kernel
theorem dX4_putRawCopy_11 : decode cX4_putRawCopy 11 = .ok (.getfield 12, 3) := by decide +kernel
theorem dX4_putRawCopy_14 : decode cX4_putRawCopy 14 = .ok (.aload_n 1, 1) := by decide +kernel
theorem dX4_putRawCopy_15 : decode cX4_putRawCopy 15 = .ok (.iload_n 2, 1) := by decide +kernel
theorem dX4_putRawCopy_16 : decode cX4_putRawCopy 16 = .ok (.invokevirtual 128, 3) := by decide +kernel
theorem dX4_putRawCopy_19 : decode cX4_putRawCopy 19 = .ok (.bipush 8, 2) := by decide +kernel
theorem dX4_putRawCopy_21 : decode cX4_putRawCopy 21 = .ok (.invokevirtual 160, 3) := by decide +kernel
theorem dX4_putRawCopy_24 : decode cX4_putRawCopy 24 = .ok (.iinc 2 1, 3) := by decide +kernel
theorem dX4_putRawCopy_27 : decode cX4_putRawCopy 27 = .ok (.goto (-25), 3) := by decide +kernel
theorem dX4_putRawCopy_30 : decode cX4_putRawCopy 30 = .ok (.return_, 1) := by decide +kernel
theorem dX4_putPlainCopy_0 : decode cX4_putPlainCopy 0 = .ok (.iconst 0, 1) := by decide +kernel
theorem dX4_putPlainCopy_1 : decode cX4_putPlainCopy 1 = .ok (.istore_n 2, 1) := by decide +kernel
theorem dX4_putPlainCopy_2 : decode cX4_putPlainCopy 2 = .ok (.iload_n 2, 1) := by decide +kernel
theorem dX4_putPlainCopy_3 : decode cX4_putPlainCopy 3 = .ok (.aload_n 1, 1) := by decide +kernel
theorem dX4_putPlainCopy_4 : decode cX4_putPlainCopy 4 = .ok (.getfield 163, 3) := by decide +kernel
theorem dX4_putPlainCopy_7 : decode cX4_putPlainCopy 7 = .ok (.if_icmp .ge 54, 3) := by decide +kernel
theorem dX4_putPlainCopy_10 : decode cX4_putPlainCopy 10 = .ok (.aload_n 1, 1) := by decide +kernel
theorem dX4_putPlainCopy_11 : decode cX4_putPlainCopy 11 = .ok (.iload_n 2, 1) := by decide +kernel
theorem dX4_putPlainCopy_12 : decode cX4_putPlainCopy 12 = .ok (.invokevirtual 166, 3) := by decide +kernel
theorem dX4_putPlainCopy_15 : decode cX4_putPlainCopy 15 = .ok (.istore_n 3, 1) := by decide +kernel
theorem dX4_putPlainCopy_16 : decode cX4_putPlainCopy 16 = .ok (.aload_n 1, 1) := by decide +kernel
theorem dX4_putPlainCopy_17 : decode cX4_putPlainCopy 17 = .ok (.iload_n 3, 1) := by decide +kernel
theorem dX4_putPlainCopy_18 : decode cX4_putPlainCopy 18 = .ok (.iconst 1, 1) := by decide +kernel
theorem dX4_putPlainCopy_19 : decode cX4_putPlainCopy 19 = .ok (.invokevirtual 169, 3) := by decide +kernel
theorem dX4_putPlainCopy_22 : decode cX4_putPlainCopy 22 = .ok (.istore 4, 2) := by decide +kernel
theorem dX4_putPlainCopy_24 : decode cX4_putPlainCopy 24 = .ok (.aload_n 1, 1) := by decide +kernel
theorem dX4_putPlainCopy_25 : decode cX4_putPlainCopy 25 = .ok (.iload_n 3, 1) := by decide +kernel
theorem dX4_putPlainCopy_26 : decode cX4_putPlainCopy 26 = .ok (.iconst 2, 1) := by decide +kernel
theorem dX4_putPlainCopy_27 : decode cX4_putPlainCopy 27 = .ok (.invokevirtual 169, 3) := by decide +kernel
theorem dX4_putPlainCopy_30 : decode cX4_putPlainCopy 30 = .ok (.istore 5, 2) := by decide +kernel
theorem dX4_putPlainCopy_32 : decode cX4_putPlainCopy 32 = .ok (.aload_n 0, 1) := by decide +kernel
theorem dX4_putPlainCopy_33 : decode cX4_putPlainCopy 33 = .ok (.getfield 12, 3) := by decide +kernel
theorem dX4_putPlainCopy_36 : decode cX4_putPlainCopy 36 = .ok (.aload_n 0, 1) := by decide +kernel
theorem dX4_putPlainCopy_37 : decode cX4_putPlainCopy 37 = .ok (.getfield 65, 3) := by decide +kernel
theorem dX4_putPlainCopy_40 : decode cX4_putPlainCopy 40 = .ok (.iload 4, 2) := by decide +kernel
theorem dX4_putPlainCopy_42 : decode cX4_putPlainCopy 42 = .ok (.iload 5, 2) := by decide +kernel
theorem dX4_putPlainCopy_44 : decode cX4_putPlainCopy 44 = .ok (.aload_n 1, 1) := by decide +kernel
theorem dX4_putPlainCopy_45 : decode cX4_putPlainCopy 45 = .ok (.iload_n 3, 1) := by decide +kernel
theorem dX4_putPlainCopy_46 : decode cX4_putPlainCopy 46 = .ok (.invokevirtual 172, 3) := by decide +kernel
theorem dX4_putPlainCopy_49 : decode cX4_putPlainCopy 49 = .ok (.iconst 1, 1) := by decide +kernel
theorem dX4_putPlainCopy_50 : decode cX4_putPlainCopy 50 = .ok (.bipush 8, 2) := by decide +kernel
theorem dX4_putPlainCopy_52 : decode cX4_putPlainCopy 52 = .ok (.invokevirtual 175, 3) := by decide +kernel
theorem dX4_putPlainCopy_55 : decode cX4_putPlainCopy 55 = .ok (.iinc 2 1, 3) := by decide +kernel
theorem dX4_putPlainCopy_58 : decode cX4_putPlainCopy 58 = .ok (.goto (-56), 3) := by decide +kernel
theorem dX4_putPlainCopy_61 : decode cX4_putPlainCopy 61 = .ok (.return_, 1) := by decide +kernel
