theorem dX0_cellsOfByte_0 : decode cX0_cellsOfByte 0 = .ok (.iload_n 0, 1) := by decide +kernel
theorem dX0_cellsOfByte_1 : decode cX0_cellsOfByte 1 = .ok (.iconst 2, 1) := by decide +kernel
theorem dX0_cellsOfByte_2 : decode cX0_cellsOfByte 2 = .ok (.if_icmp .ne 8, 3) := by decide +kernel
theorem dX0_cellsOfByte_5 : decode cX0_cellsOfByte 5 = .ok (.bipush 10, 2) := by decide +kernel
theorem dX0_cellsOfByte_7 : decode cX0_cellsOfByte 7 = .ok (.goto 5, 3) := by decide +kernel
theorem dX0_cellsOfByte_10 : decode cX0_cellsOfByte 10 = .ok (.bipush 16, 2) := by decide +kernel
theorem dX0_cellsOfByte_12 : decode cX0_cellsOfByte 12 = .ok (.ireturn, 1) := by decide +kernel
theorem dX0_cellsOfSector_0 : decode cX0_cellsOfSector 0 = .ok (.bipush 10, 2) := by decide +kernel
theorem dX0_cellsOfSector_2 : decode cX0_cellsOfSector 2 = .ok (.iload_n 1, 1) := by decide +kernel
theorem dX0_cellsOfSector_3 : decode cX0_cellsOfSector 3 = .ok (.iconst 3, 1) := by decide +kernel
theorem dX0_cellsOfSector_4 : decode cX0_cellsOfSector 4 = .ok (.iadd, 1) := by decide +kernel
theorem dX0_cellsOfSector_5 : decode cX0_cellsOfSector 5 = .ok (.iload_n 0, 1) := by decide +kernel
theorem dX0_cellsOfSector_6 : decode cX0_cellsOfSector 6 = .ok (.invokestatic 11, 3) := by decide +kernel
theorem dX0_cellsOfSector_9 : decode cX0_cellsOfSector 9 = .ok (.imul, 1) := by decide +kernel
theorem dX0_cellsOfSector_10 : decode cX0_cellsOfSector 10 = .ok (.iadd, 1) := by decide +kernel
theorem dX0_cellsOfSector_11 : decode cX0_cellsOfSector 11 = .ok (.iconst 1, 1) := by decide +kernel
theorem dX0_cellsOfSector_12 : decode cX0_cellsOfSector 12 = .ok (.iadd, 1) := by decide +kernel
theorem dX0_cellsOfSector_13 : decode cX0_cellsOfSector 13 = .ok (.ireturn, 1) := by decide +kernel
theorem dX0_groupOf_0 : decode cX0_groupOf 0 = .ok (.iload_n 0, 1) := by decide +kernel
theorem dX0_groupOf_1 : decode cX0_groupOf 1 = .ok (.ifCond .lt 19, 3) := by decide +kernel
theorem dX0_groupOf_4 : decode cX0_groupOf 4 = .ok (.iload_n 0, 1) := by decide +kernel
theorem dX0_groupOf_5 : decode cX0_groupOf 5 = .ok (.getstatic 15, 3) := by decide +kernel
theorem dX0_groupOf_8 : decode cX0_groupOf 8 = .ok (.arraylength, 1) := by decide +kernel
theorem dX0_groupOf_9 : decode cX0_groupOf 9 = .ok (.if_icmp .ge 11, 3) := by decide +kernel
theorem dX0_groupOf_12 : decode cX0_groupOf 12 = .ok (.getstatic 15, 3) := by decide +kernel
theorem dX0_groupOf_15 : decode cX0_groupOf 15 = .ok (.iload_n 0, 1) := by decide +kernel
theorem dX0_groupOf_16 : decode cX0_groupOf 16 = .ok (.iaload, 1) := by decide +kernel
theorem dX0_groupOf_17 : decode cX0_groupOf 17 = .ok (.goto 4, 3) := by decide +kernel
theorem dX0_groupOf_20 : decode cX0_groupOf 20 = .ok (.iconst 0, 1) := by decide +kernel
theorem dX0_groupOf_21 : decode cX0_groupOf 21 = .ok (.ireturn, 1) := by decide +kernel
theorem dX0_byteAt_0 : decode cX0_byteAt 0 = .ok (.iload_n 2, 1) := by decide +kernel
theorem dX0_byteAt_1 : decode cX0_byteAt 1 = .ok (.iconst 2, 1) := by decide +kernel
theorem dX0_byteAt_2 : decode cX0_byteAt 2 = .ok (.if_icmp .ne 7, 3) := by decide +kernel
theorem dX0_byteAt_5 : decode cX0_byteAt 5 = .ok (.iconst 1, 1) := by decide +kernel
theorem dX0_byteAt_6 : decode cX0_byteAt 6 = .ok (.goto 4, 3) := by decide +kernel
theorem dX0_byteAt_9 : decode cX0_byteAt 9 = .ok (.iconst 0, 1) := by decide +kernel
theorem dX0_byteAt_10 : decode cX0_byteAt 10 = .ok (.istore_n 3, 1) := by decide +kernel
theorem dX0_byteAt_11 : decode cX0_byteAt 11 = .ok (.iload_n 3, 1) := by decide +kernel
theorem dX0_byteAt_12 : decode cX0_byteAt 12 = .ok (.ifCond .eq 7, 3) := by decide +kernel
theorem dX0_byteAt_15 : decode cX0_byteAt 15 = .ok (.iload_n 1, 1) := by decide +kernel
theorem dX0_byteAt_16 : decode cX0_byteAt 16 = .ok (.goto 6, 3) := by decide +kernel
theorem dX0_byteAt_19 : decode cX0_byteAt 19 = .ok (.iload_n 1, 1) := by decide +kernel
theorem dX0_byteAt_20 : decode cX0_byteAt 20 = .ok (.iconst 1, 1) := by decide +kernel
theorem dX0_byteAt_21 : decode cX0_byteAt 21 = .ok (.iadd, 1) := by decide +kernel
theorem dX0_byteAt_22 : decode cX0_byteAt 22 = .ok (.istore 4, 2) := by decide +kernel
theorem dX0_byteAt_24 : decode cX0_byteAt 24 = .ok (.iload_n 3, 1) := by decide +kernel
theorem dX0_byteAt_25 : decode cX0_byteAt 25 = .ok (.ifCond .eq 7, 3) := by decide +kernel
theorem dX0_byteAt_28 : decode cX0_byteAt 28 = .ok (.iconst 1, 1) := by decide +kernel
theorem dX0_byteAt_29 : decode cX0_byteAt 29 = .ok (.goto 4, 3) := by decide +kernel
theorem dX0_byteAt_32 : decode cX0_byteAt 32 = .ok (.iconst 2, 1) := by decide +kernel
theorem dX0_byteAt_33 : decode cX0_byteAt 33 = .ok (.istore 5, 2) := by decide +kernel
theorem dX0_byteAt_35 : decode cX0_byteAt 35 = .ok (.iload_n 3, 1) := by decide +kernel
theorem dX0_byteAt_36 : decode cX0_byteAt 36 = .ok (.ifCond .eq 8, 3) := by decide +kernel
theorem dX0_byteAt_39 : decode cX0_byteAt 39 = .ok (.bipush 10, 2) := by decide +kernel
theorem dX0_byteAt_41 : decode cX0_byteAt 41 = .ok (.goto 5, 3) := by decide +kernel
theorem dX0_byteAt_44 : decode cX0_byteAt 44 = .ok (.bipush 8, 2) := by decide +kernel
theorem dX0_byteAt_46 : decode cX0_byteAt 46 = .ok (.istore 6, 2) := by decide +kernel
theorem dX0_byteAt_48 : decode cX0_byteAt 48 = .ok (.iconst 0, 1) := by decide +kernel
theorem dX0_byteAt_49 : decode cX0_byteAt 49 = .ok (.istore 7, 2) := by decide +kernel
theorem dX0_byteAt_51 : decode cX0_byteAt 51 = .ok (.iconst 0, 1) := by decide +kernel
theorem dX0_byteAt_52 : decode cX0_byteAt 52 = .ok (.istore 8, 2) := by decide +kernel
theorem dX0_byteAt_54 : decode cX0_byteAt 54 = .ok (.iload 8, 2) := by decide +kernel
theorem dX0_byteAt_56 : decode cX0_byteAt 56 = .ok (.iload 6, 2) := by decide +kernel
theorem dX0_byteAt_58 : decode cX0_byteAt 58 = .ok (.if_icmp .ge 28, 3) := by decide +kernel
theorem dX0_byteAt_61 : decode cX0_byteAt 61 = .ok (.iconst 2, 1) := by decide +kernel
theorem dX0_byteAt_62 : decode cX0_byteAt 62 = .ok (.iload 7, 2) := by decide +kernel
theorem dX0_byteAt_64 : decode cX0_byteAt 64 = .ok (.imul, 1) := by decide +kernel
theorem dX0_byteAt_65 : decode cX0_byteAt 65 = .ok (.aload_n 0, 1) := by decide +kernel
theorem dX0_byteAt_66 : decode cX0_byteAt 66 = .ok (.iload 4, 2) := by decide +kernel
theorem dX0_byteAt_68 : decode cX0_byteAt 68 = .ok (.iload 8, 2) := by decide +kernel
theorem dX0_byteAt_70 : decode cX0_byteAt 70 = .ok (.iload 5, 2) := by decide +kernel
theorem dX0_byteAt_72 : decode cX0_byteAt 72 = .ok (.imul, 1) := by decide +kernel
theorem dX0_byteAt_73 : decode cX0_byteAt 73 = .ok (.iadd, 1) := by decide +kernel
theorem dX0_byteAt_74 : decode cX0_byteAt 74 = .ok (.invokevirtual 19, 3) := by decide +kernel
theorem dX0_byteAt_77 : decode cX0_byteAt 77 = .ok (.iadd, 1) := by decide +kernel
theorem dX0_byteAt_78 : decode cX0_byteAt 78 = .ok (.istore 7, 2) := by decide +kernel
theorem dX0_byteAt_80 : decode cX0_byteAt 80 = .ok (.iinc 8 1, 3) := by decide +kernel
theorem dX0_byteAt_83 : decode cX0_byteAt 83 = .ok (.goto (-29), 3) := by decide +kernel
theorem dX0_byteAt_86 : decode cX0_byteAt 86 = .ok (.iload_n 3, 1) := by decide +kernel
theorem dX0_byteAt_87 : decode cX0_byteAt 87 = .ok (.ifCond .eq 11, 3) := by decide +kernel
theorem dX0_byteAt_90 : decode cX0_byteAt 90 = .ok (.iload 7, 2) := by decide +kernel
theorem dX0_byteAt_92 : decode cX0_byteAt 92 = .ok (.invokestatic 24, 3) := by decide +kernel
theorem dX0_byteAt_95 : decode cX0_byteAt 95 = .ok (.goto 5, 3) := by decide +kernel
theorem dX0_byteAt_98 : decode cX0_byteAt 98 = .ok (.iload 7, 2) := by decide +kernel
theorem dX0_byteAt_100 : decode cX0_byteAt 100 = .ok (.ireturn, 1) := by decide +kernel
theorem dX0_byteOfGroups_0 : decode cX0_byteOfGroups 0 = .ok (.iconst (-1), 1) := by decide +kernel
theorem dX0_byteOfGroups_1 : decode cX0_byteOfGroups 1 = .ok (.istore_n 1, 1) := by decide +kernel
theorem dX0_byteOfGroups_2 : decode cX0_byteOfGroups 2 = .ok (.iconst (-1), 1) := by decide +kernel
theorem dX0_byteOfGroups_3 : decode cX0_byteOfGroups 3 = .ok (.istore_n 2, 1) := by decide +kernel
theorem dX0_byteOfGroups_4 : decode cX0_byteOfGroups 4 = .ok (.iconst 0, 1) := by decide +kernel
theorem dX0_byteOfGroups_5 : decode cX0_byteOfGroups 5 = .ok (.istore_n 3, 1) := by decide +kernel
theorem dX0_byteOfGroups_6 : decode cX0_byteOfGroups 6 = .ok (.iload_n 3, 1) := by decide +kernel
theorem dX0_byteOfGroups_7 : decode cX0_byteOfGroups 7 = .ok (.getstatic 15, 3) := by decide +kernel
theorem dX0_byteOfGroups_10 : decode cX0_byteOfGroups 10 = .ok (.arraylength, 1) := by decide +kernel
theorem dX0_byteOfGroups_11 : decode cX0_byteOfGroups 11 = .ok (.if_icmp .ge 44, 3) := by decide +kernel
theorem dX0_byteOfGroups_14 : decode cX0_byteOfGroups 14 = .ok (.getstatic 15, 3) := by decide +kernel
theorem dX0_byteOfGroups_17 : decode cX0_byteOfGroups 17 = .ok (.iload_n 3, 1) := by decide +kernel
theorem dX0_byteOfGroups_18 : decode cX0_byteOfGroups 18 = .ok (.iaload, 1) := by decide +kernel
theorem dX0_byteOfGroups_19 : decode cX0_byteOfGroups 19 = .ok (.iload_n 0, 1) := by decide +kernel
theorem dX0_byteOfGroups_20 : decode cX0_byteOfGroups 20 = .ok (.iconst 5, 1) := by decide +kernel
theorem dX0_byteOfGroups_21 : decode cX0_byteOfGroups 21 = .ok (.ishr, 1) := by decide +kernel
theorem dX0_byteOfGroups_22 : decode cX0_byteOfGroups 22 = .ok (.if_icmp .ne 7, 3) := by decide +kernel
theorem dX0_byteOfGroups_25 : decode cX0_byteOfGroups 25 = .ok (.iload_n 3, 1) := by decide +kernel
theorem dX0_byteOfGroups_26 : decode cX0_byteOfGroups 26 = .ok (.goto 4, 3) := by decide +kernel
theorem dX0_byteOfGroups_29 : decode cX0_byteOfGroups 29 = .ok (.iload_n 1, 1) := by decide +kernel
theorem dX0_byteOfGroups_30 : decode cX0_byteOfGroups 30 = .ok (.istore_n 1, 1) := by decide +kernel
theorem dX0_byteOfGroups_31 : decode cX0_byteOfGroups 31 = .ok (.getstatic 15, 3) := by decide +kernel
theorem dX0_byteOfGroups_34 : decode cX0_byteOfGroups 34 = .ok (.iload_n 3, 1) := by decide +kernel
theorem dX0_byteOfGroups_35 : decode cX0_byteOfGroups 35 = .ok (.iaload, 1) := by decide +kernel
theorem dX0_byteOfGroups_36 : decode cX0_byteOfGroups 36 = .ok (.iload_n 0, 1) := by decide +kernel
theorem dX0_byteOfGroups_37 : decode cX0_byteOfGroups 37 = .ok (.bipush 32, 2) := by decide +kernel
theorem dX0_byteOfGroups_39 : decode cX0_byteOfGroups 39 = .ok (.irem, 1) := by decide +kernel
theorem dX0_byteOfGroups_40 : decode cX0_byteOfGroups 40 = .ok (.if_icmp .ne 7, 3) := by decide +kernel
theorem dX0_byteOfGroups_43 : decode cX0_byteOfGroups 43 = .ok (.iload_n 3, 1) := by decide +kernel
theorem dX0_byteOfGroups_44 : decode cX0_byteOfGroups 44 = .ok (.goto 4, 3) := by decide +kernel
theorem dX0_byteOfGroups_47 : decode cX0_byteOfGroups 47 = .ok (.iload_n 2, 1) := by decide +kernel
theorem dX0_byteOfGroups_48 : decode cX0_byteOfGroups 48 = .ok (.istore_n 2, 1) := by decide +kernel
theorem dX0_byteOfGroups_49 : decode cX0_byteOfGroups 49 = .ok (.iinc 3 1, 3) := by decide +kernel
theorem dX0_byteOfGroups_52 : decode cX0_byteOfGroups 52 = .ok (.goto (-46), 3) := by decide +kernel
theorem dX0_byteOfGroups_55 : decode cX0_byteOfGroups 55 = .ok (.iload_n 1, 1) := by decide +kernel
theorem dX0_byteOfGroups_56 : decode cX0_byteOfGroups 56 = .ok (.iconst (-1), 1) := by decide +kernel
theorem dX0_byteOfGroups_57 : decode cX0_byteOfGroups 57 = .ok (.if_icmp .eq 8, 3) := by decide +kernel
theorem dX0_byteOfGroups_60 : decode cX0_byteOfGroups 60 = .ok (.iload_n 2, 1) := by decide +kernel
theorem dX0_byteOfGroups_61 : decode cX0_byteOfGroups 61 = .ok (.iconst (-1), 1) := by decide +kernel
theorem dX0_byteOfGroups_62 : decode cX0_byteOfGroups 62 = .ok (.if_icmp .ne 7, 3) := by decide +kernel
theorem dX0_byteOfGroups_65 : decode cX0_byteOfGroups 65 = .ok (.iconst (-1), 1) := by decide +kernel
theorem dX0_byteOfGroups_66 : decode cX0_byteOfGroups 66 = .ok (.goto 9, 3) := by decide +kernel
theorem dX0_byteOfGroups_69 : decode cX0_byteOfGroups 69 = .ok (.iload_n 1, 1) := by decide +kernel
theorem dX0_byteOfGroups_70 : decode cX0_byteOfGroups 70 = .ok (.bipush 16, 2) := by decide +kernel
theorem dX0_byteOfGroups_72 : decode cX0_byteOfGroups 72 = .ok (.imul, 1) := by decide +kernel
theorem dX0_byteOfGroups_73 : decode cX0_byteOfGroups 73 = .ok (.iload_n 2, 1) := by decide +kernel
theorem dX0_byteOfGroups_74 : decode cX0_byteOfGroups 74 = .ok (.iadd, 1) := by decide +kernel
theorem dX0_byteOfGroups_75 : decode cX0_byteOfGroups 75 = .ok (.ireturn, 1) := by decide +kernel
theorem dX1_init_0 : decode cX1_init 0 = .ok (.aload_n 0, 1) := by decide +kernel
theorem dX1_init_1 : decode cX1_init 1 = .ok (.invokespecial 3, 3) := by decide +kernel
theorem dX1_init_4 : decode cX1_init 4 = .ok (.aload_n 0, 1) := by decide +kernel
theorem dX1_init_5 : decode cX1_init 5 = .ok (.bipush 72, 2) := by decide +kernel
theorem dX1_init_7 : decode cX1_init 7 = .ok (.newarray .int, 2) := by decide +kernel
theorem dX1_init_9 : decode cX1_init 9 = .ok (.putfield 11, 3) := by decide +kernel
theorem dX1_init_12 : decode cX1_init 12 = .ok (.aload_n 0, 1) := by decide +kernel
theorem dX1_init_13 : decode cX1_init 13 = .ok (.bipush 8, 2) := by decide +kernel
theorem dX1_init_15 : decode cX1_init 15 = .ok (.newarray .int, 2) := by decide +kernel
theorem dX1_init_17 : decode cX1_init 17 = .ok (.putfield 15, 3) := by decide +kernel
theorem dX1_init_20 : decode cX1_init 20 = .ok (.aload_n 0, 1) := by decide +kernel
theorem dX1_init_21 : decode cX1_init 21 = .ok (.iconst 0, 1) := by decide +kernel
theorem dX1_init_22 : decode cX1_init 22 = .ok (.putfield 18, 3) := by decide +kernel
theorem dX1_init_25 : decode cX1_init 25 = .ok (.aload_n 0, 1) := by decide +kernel
theorem dX1_init_26 : decode cX1_init 26 = .ok (.iconst 0, 1) := by decide +kernel
theorem dX1_init_27 : decode cX1_init 27 = .ok (.putfield 22, 3) := by decide +kernel
theorem dX1_init_30 : decode cX1_init 30 = .ok (.aload_n 0, 1) := by decide +kernel
theorem dX1_init_31 : decode cX1_init 31 = .ok (.iconst 0, 1) := by decide +kernel
theorem dX1_init_32 : decode cX1_init 32 = .ok (.putfield 25, 3) := by decide +kernel
theorem dX1_init_35 : decode cX1_init 35 = .ok (.aload_n 0, 1) := by decide +kernel
theorem dX1_init_36 : decode cX1_init 36 = .ok (.iconst 0, 1) := by decide +kernel
theorem dX1_init_37 : decode cX1_init 37 = .ok (.putfield 28, 3) := by decide +kernel
theorem dX1_init_40 : decode cX1_init 40 = .ok (.aload_n 0, 1) := by decide +kernel
theorem dX1_init_41 : decode cX1_init 41 = .ok (.iconst 0, 1) := by decide +kernel
theorem dX1_init_42 : decode cX1_init 42 = .ok (.putfield 32, 3) := by decide +kernel
theorem dX1_init_45 : decode cX1_init 45 = .ok (.aload_n 0, 1) := by decide +kernel
theorem dX1_init_46 : decode cX1_init 46 = .ok (.iconst 0, 1) := by decide +kernel
theorem dX1_init_47 : decode cX1_init 47 = .ok (.putfield 35, 3) := by decide +kernel
theorem dX1_init_50 : decode cX1_init 50 = .ok (.aload_n 0, 1) := by decide +kernel
theorem dX1_init_51 : decode cX1_init 51 = .ok (.iload_n 1, 1) := by decide +kernel
theorem dX1_init_52 : decode cX1_init 52 = .ok (.putfield 38, 3) := by decide +kernel
theorem dX1_init_55 : decode cX1_init 55 = .ok (.return_, 1) := by decide +kernel
theorem dX1_look_0 : decode cX1_look 0 = .ok (.aload_n 0, 1) := by decide +kernel
theorem dX1_look_1 : decode cX1_look 1 = .ok (.iconst 0, 1) := by decide +kernel
theorem dX1_look_2 : decode cX1_look 2 = .ok (.putfield 18, 3) := by decide +kernel
theorem dX1_look_5 : decode cX1_look 5 = .ok (.aload_n 0, 1) := by decide +kernel
theorem dX1_look_6 : decode cX1_look 6 = .ok (.iconst 0, 1) := by decide +kernel
theorem dX1_look_7 : decode cX1_look 7 = .ok (.putfield 22, 3) := by decide +kernel
theorem dX1_look_10 : decode cX1_look 10 = .ok (.aload_n 0, 1) := by decide +kernel
theorem dX1_look_11 : decode cX1_look 11 = .ok (.iconst 0, 1) := by decide +kernel
theorem dX1_look_12 : decode cX1_look 12 = .ok (.putfield 25, 3) := by decide +kernel
theorem dX1_look_15 : decode cX1_look 15 = .ok (.aload_n 0, 1) := by decide +kernel
theorem dX1_look_16 : decode cX1_look 16 = .ok (.iconst 0, 1) := by decide +kernel
theorem dX1_look_17 : decode cX1_look 17 = .ok (.putfield 28, 3) := by decide +kernel
theorem dX1_look_20 : decode cX1_look 20 = .ok (.iconst 0, 1) := by decide +kernel
theorem dX1_look_21 : decode cX1_look 21 = .ok (.istore_n 2, 1) := by decide +kernel
theorem dX1_look_22 : decode cX1_look 22 = .ok (.iconst 0, 1) := by decide +kernel
theorem dX1_look_23 : decode cX1_look 23 = .ok (.istore_n 3, 1) := by decide +kernel
theorem dX1_look_24 : decode cX1_look 24 = .ok (.iconst 0, 1) := by decide +kernel
theorem dX1_look_25 : decode cX1_look 25 = .ok (.istore 4, 2) := by decide +kernel
theorem dX1_look_27 : decode cX1_look 27 = .ok (.iload 4, 2) := by decide +kernel
theorem dX1_look_29 : decode cX1_look 29 = .ok (.aload_n 1, 1) := by decide +kernel
theorem dX1_look_30 : decode cX1_look 30 = .ok (.getfield 41, 3) := by decide +kernel
theorem dX1_look_33 : decode cX1_look 33 = .ok (.if_icmp .ge 61, 3) := by decide +kernel
theorem dX1_look_36 : decode cX1_look 36 = .ok (.aload_n 0, 1) := by decide +kernel
theorem dX1_look_37 : decode cX1_look 37 = .ok (.getfield 28, 3) := by decide +kernel
theorem dX1_look_40 : decode cX1_look 40 = .ok (.ifCond .ne 54, 3) := by decide +kernel
theorem dX1_look_43 : decode cX1_look 43 = .ok (.iconst 2, 1) := by decide +kernel
theorem dX1_look_44 : decode cX1_look 44 = .ok (.iload_n 3, 1) := by decide +kernel
theorem dX1_look_45 : decode cX1_look 45 = .ok (.imul, 1) := by decide +kernel
theorem dX1_look_46 : decode cX1_look 46 = .ok (.aload_n 1, 1) := by decide +kernel
theorem dX1_look_47 : decode cX1_look 47 = .ok (.iload 4, 2) := by decide +kernel
theorem dX1_look_49 : decode cX1_look 49 = .ok (.invokevirtual 46, 3) := by decide +kernel
theorem dX1_look_52 : decode cX1_look 52 = .ok (.iadd, 1) := by decide +kernel
theorem dX1_look_53 : decode cX1_look 53 = .ok (.sipush 1024, 3) := by decide +kernel
theorem dX1_look_56 : decode cX1_look 56 = .ok (.irem, 1) := by decide +kernel
theorem dX1_look_57 : decode cX1_look 57 = .ok (.istore_n 3, 1) := by decide +kernel
theorem dX1_look_58 : decode cX1_look 58 = .ok (.iload 4, 2) := by decide +kernel
theorem dX1_look_60 : decode cX1_look 60 = .ok (.iconst 1, 1) := by decide +kernel
theorem dX1_look_61 : decode cX1_look 61 = .ok (.iadd, 1) := by decide +kernel
theorem dX1_look_62 : decode cX1_look 62 = .ok (.bipush 10, 2) := by decide +kernel
theorem dX1_look_64 : decode cX1_look 64 = .ok (.isub, 1) := by decide +kernel
theorem dX1_look_65 : decode cX1_look 65 = .ok (.istore 5, 2) := by decide +kernel
theorem dX1_look_67 : decode cX1_look 67 = .ok (.iload 5, 2) := by decide +kernel
theorem dX1_look_69 : decode cX1_look 69 = .ok (.iload_n 2, 1) := by decide +kernel
theorem dX1_look_70 : decode cX1_look 70 = .ok (.if_icmp .lt 18, 3) := by decide +kernel
theorem dX1_look_73 : decode cX1_look 73 = .ok (.iload_n 3, 1) := by decide +kernel
theorem dX1_look_74 : decode cX1_look 74 = .ok (.sipush 529, 3) := by decide +kernel
theorem dX1_look_77 : decode cX1_look 77 = .ok (.if_icmp .ne 11, 3) := by decide +kernel
theorem dX1_look_80 : decode cX1_look 80 = .ok (.aload_n 0, 1) := by decide +kernel
theorem dX1_look_81 : decode cX1_look 81 = .ok (.aload_n 1, 1) := by decide +kernel
theorem dX1_look_82 : decode cX1_look 82 = .ok (.iload 5, 2) := by decide +kernel
theorem dX1_look_84 : decode cX1_look 84 = .ok (.invokevirtual 50, 3) := by decide +kernel
theorem dX1_look_87 : decode cX1_look 87 = .ok (.istore_n 2, 1) := by decide +kernel
theorem dX1_look_88 : decode cX1_look 88 = .ok (.iinc 4 1, 3) := by decide +kernel
theorem dX1_look_91 : decode cX1_look 91 = .ok (.goto (-64), 3) := by decide +kernel
theorem dX1_look_94 : decode cX1_look 94 = .ok (.aload_n 0, 1) := by decide +kernel
theorem dX1_look_95 : decode cX1_look 95 = .ok (.invokevirtual 54, 3) := by decide +kernel
theorem dX1_look_98 : decode cX1_look 98 = .ok (.return_, 1) := by decide +kernel
theorem dX1_noteBehindMark_0 : decode cX1_noteBehindMark 0 = .ok (.aload_n 0, 1) := by decide +kernel
theorem dX1_noteBehindMark_1 : decode cX1_noteBehindMark 1 = .ok (.getfield 38, 3) := by decide +kernel
theorem dX1_noteBehindMark_4 : decode cX1_noteBehindMark 4 = .ok (.invokestatic 57, 3) := by decide +kernel
theorem dX1_noteBehindMark_7 : decode cX1_noteBehindMark 7 = .ok (.istore_n 3, 1) := by decide +kernel
theorem dX1_noteBehindMark_8 : decode cX1_noteBehindMark 8 = .ok (.iload_n 2, 1) := by decide +kernel
theorem dX1_noteBehindMark_9 : decode cX1_noteBehindMark 9 = .ok (.bipush 10, 2) := by decide +kernel
theorem dX1_noteBehindMark_11 : decode cX1_noteBehindMark 11 = .ok (.iadd, 1) := by decide +kernel
theorem dX1_noteBehindMark_12 : decode cX1_noteBehindMark 12 = .ok (.istore 4, 2) := by decide +kernel
theorem dX1_noteBehindMark_14 : decode cX1_noteBehindMark 14 = .ok (.iload 4, 2) := by decide +kernel
theorem dX1_noteBehindMark_16 : decode cX1_noteBehindMark 16 = .ok (.iconst 2, 1) := by decide +kernel
theorem dX1_noteBehindMark_17 : decode cX1_noteBehindMark 17 = .ok (.iload_n 3, 1) := by decide +kernel
theorem dX1_noteBehindMark_18 : decode cX1_noteBehindMark 18 = .ok (.imul, 1) := by decide +kernel
theorem dX1_noteBehindMark_19 : decode cX1_noteBehindMark 19 = .ok (.iadd, 1) := by decide +kernel
theorem dX1_noteBehindMark_20 : decode cX1_noteBehindMark 20 = .ok (.aload_n 1, 1) := by decide +kernel
theorem dX1_noteBehindMark_21 : decode cX1_noteBehindMark 21 = .ok (.getfield 41, 3) := by decide +kernel
theorem dX1_noteBehindMark_24 : decode cX1_noteBehindMark 24 = .ok (.if_icmp .le 16, 3) := by decide +kernel
theorem dX1_noteBehindMark_27 : decode cX1_noteBehindMark 27 = .ok (.aload_n 0, 1) := by decide +kernel
theorem dX1_noteBehindMark_28 : decode cX1_noteBehindMark 28 = .ok (.dup, 1) := by decide +kernel
theorem dX1_noteBehindMark_29 : decode cX1_noteBehindMark 29 = .ok (.getfield 25, 3) := by decide +kernel
theorem dX1_noteBehindMark_32 : decode cX1_noteBehindMark 32 = .ok (.iconst 1, 1) := by decide +kernel
theorem dX1_noteBehindMark_33 : decode cX1_noteBehindMark 33 = .ok (.iadd, 1) := by decide +kernel
theorem dX1_noteBehindMark_34 : decode cX1_noteBehindMark 34 = .ok (.putfield 25, 3) := by decide +kernel
theorem dX1_noteBehindMark_37 : decode cX1_noteBehindMark 37 = .ok (.iload 4, 2) := by decide +kernel
theorem dX1_noteBehindMark_39 : decode cX1_noteBehindMark 39 = .ok (.ireturn, 1) := by decide +kernel
theorem dX1_noteBehindMark_40 : decode cX1_noteBehindMark 40 = .ok (.aload_n 1, 1) := by decide +kernel
theorem dX1_noteBehindMark_41 : decode cX1_noteBehindMark 41 = .ok (.iload 4, 2) := by decide +kernel
theorem dX1_noteBehindMark_43 : decode cX1_noteBehindMark 43 = .ok (.aload_n 0, 1) := by decide +kernel
theorem dX1_noteBehindMark_44 : decode cX1_noteBehindMark 44 = .ok (.getfield 38, 3) := by decide +kernel
theorem dX1_noteBehindMark_47 : decode cX1_noteBehindMark 47 = .ok (.invokestatic 62, 3) := by decide +kernel
theorem dX1_noteBehindMark_50 : decode cX1_noteBehindMark 50 = .ok (.istore 5, 2) := by decide +kernel
theorem dX1_noteBehindMark_52 : decode cX1_noteBehindMark 52 = .ok (.aload_n 1, 1) := by decide +kernel
theorem dX1_noteBehindMark_53 : decode cX1_noteBehindMark 53 = .ok (.iload 4, 2) := by decide +kernel
theorem dX1_noteBehindMark_55 : decode cX1_noteBehindMark 55 = .ok (.iload_n 3, 1) := by decide +kernel
theorem dX1_noteBehindMark_56 : decode cX1_noteBehindMark 56 = .ok (.iadd, 1) := by decide +kernel
theorem dX1_noteBehindMark_57 : decode cX1_noteBehindMark 57 = .ok (.aload_n 0, 1) := by decide +kernel
theorem dX1_noteBehindMark_58 : decode cX1_noteBehindMark 58 = .ok (.getfield 38, 3) := by decide +kernel
theorem dX1_noteBehindMark_61 : decode cX1_noteBehindMark 61 = .ok (.invokestatic 62, 3) := by decide +kernel
theorem dX1_noteBehindMark_64 : decode cX1_noteBehindMark 64 = .ok (.istore 6, 2) := by decide +kernel
theorem dX1_noteBehindMark_66 : decode cX1_noteBehindMark 66 = .ok (.iload 5, 2) := by decide +kernel
theorem dX1_noteBehindMark_68 : decode cX1_noteBehindMark 68 = .ok (.iconst (-1), 1) := by decide +kernel
theorem dX1_noteBehindMark_69 : decode cX1_noteBehindMark 69 = .ok (.if_icmp .eq 15, 3) := by decide +kernel
theorem dX1_noteBehindMark_72 : decode cX1_noteBehindMark 72 = .ok (.iload 6, 2) := by decide +kernel
theorem dX1_noteBehindMark_74 : decode cX1_noteBehindMark 74 = .ok (.iconst 1, 1) := by decide +kernel
theorem dX1_noteBehindMark_75 : decode cX1_noteBehindMark 75 = .ok (.if_icmp .lt 9, 3) := by decide +kernel
theorem dX1_noteBehindMark_78 : decode cX1_noteBehindMark 78 = .ok (.iload 6, 2) := by decide +kernel
theorem dX1_noteBehindMark_80 : decode cX1_noteBehindMark 80 = .ok (.iconst 4, 1) := by decide +kernel
theorem dX1_noteBehindMark_81 : decode cX1_noteBehindMark 81 = .ok (.if_icmp .le 16, 3) := by decide +kernel
theorem dX1_noteBehindMark_84 : decode cX1_noteBehindMark 84 = .ok (.aload_n 0, 1) := by decide +kernel
theorem dX1_noteBehindMark_85 : decode cX1_noteBehindMark 85 = .ok (.dup, 1) := by decide +kernel
theorem dX1_noteBehindMark_86 : decode cX1_noteBehindMark 86 = .ok (.getfield 25, 3) := by decide +kernel
theorem dX1_noteBehindMark_89 : decode cX1_noteBehindMark 89 = .ok (.iconst 1, 1) := by decide +kernel
theorem dX1_noteBehindMark_90 : decode cX1_noteBehindMark 90 = .ok (.iadd, 1) := by decide +kernel
theorem dX1_noteBehindMark_91 : decode cX1_noteBehindMark 91 = .ok (.putfield 25, 3) := by decide +kernel
theorem dX1_noteBehindMark_94 : decode cX1_noteBehindMark 94 = .ok (.iload 4, 2) := by decide +kernel
theorem dX1_noteBehindMark_96 : decode cX1_noteBehindMark 96 = .ok (.ireturn, 1) := by decide +kernel
theorem dX1_noteBehindMark_97 : decode cX1_noteBehindMark 97 = .ok (.iload 4, 2) := by decide +kernel
theorem dX1_noteBehindMark_99 : decode cX1_noteBehindMark 99 = .ok (.iload 6, 2) := by decide +kernel
theorem dX1_noteBehindMark_101 : decode cX1_noteBehindMark 101 = .ok (.iconst 3, 1) := by decide +kernel
theorem dX1_noteBehindMark_102 : decode cX1_noteBehindMark 102 = .ok (.iadd, 1) := by decide +kernel
theorem dX1_noteBehindMark_103 : decode cX1_noteBehindMark 103 = .ok (.iload_n 3, 1) := by decide +kernel
theorem dX1_noteBehindMark_104 : decode cX1_noteBehindMark 104 = .ok (.imul, 1) := by decide +kernel
theorem dX1_noteBehindMark_105 : decode cX1_noteBehindMark 105 = .ok (.iadd, 1) := by decide +kernel
theorem dX1_noteBehindMark_106 : decode cX1_noteBehindMark 106 = .ok (.istore 7, 2) := by decide +kernel
theorem dX1_noteBehindMark_108 : decode cX1_noteBehindMark 108 = .ok (.iload 7, 2) := by decide +kernel
theorem dX1_noteBehindMark_110 : decode cX1_noteBehindMark 110 = .ok (.aload_n 1, 1) := by decide +kernel
theorem dX1_noteBehindMark_111 : decode cX1_noteBehindMark 111 = .ok (.getfield 41, 3) := by decide +kernel
theorem dX1_noteBehindMark_114 : decode cX1_noteBehindMark 114 = .ok (.if_icmp .le 11, 3) := by decide +kernel
theorem dX1_noteBehindMark_117 : decode cX1_noteBehindMark 117 = .ok (.aload_n 0, 1) := by decide +kernel
theorem dX1_noteBehindMark_118 : decode cX1_noteBehindMark 118 = .ok (.iconst 1, 1) := by decide +kernel
theorem dX1_noteBehindMark_119 : decode cX1_noteBehindMark 119 = .ok (.putfield 28, 3) := by decide +kernel
theorem dX1_noteBehindMark_122 : decode cX1_noteBehindMark 122 = .ok (.iload 7, 2) := by decide +kernel
theorem dX1_noteBehindMark_124 : decode cX1_noteBehindMark 124 = .ok (.ireturn, 1) := by decide +kernel
theorem dX1_noteBehindMark_125 : decode cX1_noteBehindMark 125 = .ok (.aload_n 0, 1) := by decide +kernel
theorem dX1_noteBehindMark_126 : decode cX1_noteBehindMark 126 = .ok (.aload_n 0, 1) := by decide +kernel
theorem dX1_noteBehindMark_127 : decode cX1_noteBehindMark 127 = .ok (.getfield 18, 3) := by decide +kernel
theorem dX1_noteBehindMark_130 : decode cX1_noteBehindMark 130 = .ok (.iconst 0, 1) := by decide +kernel
theorem dX1_noteBehindMark_131 : decode cX1_noteBehindMark 131 = .ok (.iload_n 2, 1) := by decide +kernel
theorem dX1_noteBehindMark_132 : decode cX1_noteBehindMark 132 = .ok (.invokevirtual 66, 3) := by decide +kernel
theorem dX1_noteBehindMark_135 : decode cX1_noteBehindMark 135 = .ok (.aload_n 0, 1) := by decide +kernel
theorem dX1_noteBehindMark_136 : decode cX1_noteBehindMark 136 = .ok (.aload_n 0, 1) := by decide +kernel
theorem dX1_noteBehindMark_137 : decode cX1_noteBehindMark 137 = .ok (.getfield 18, 3) := by decide +kernel
theorem dX1_noteBehindMark_140 : decode cX1_noteBehindMark 140 = .ok (.iconst 1, 1) := by decide +kernel
theorem dX1_noteBehindMark_141 : decode cX1_noteBehindMark 141 = .ok (.iload 5, 2) := by decide +kernel
theorem dX1_noteBehindMark_143 : decode cX1_noteBehindMark 143 = .ok (.invokevirtual 66, 3) := by decide +kernel
theorem dX1_noteBehindMark_146 : decode cX1_noteBehindMark 146 = .ok (.aload_n 0, 1) := by decide +kernel
theorem dX1_noteBehindMark_147 : decode cX1_noteBehindMark 147 = .ok (.aload_n 0, 1) := by decide +kernel
theorem dX1_noteBehindMark_148 : decode cX1_noteBehindMark 148 = .ok (.getfield 18, 3) := by decide +kernel
theorem dX1_noteBehindMark_151 : decode cX1_noteBehindMark 151 = .ok (.iconst 2, 1) := by decide +kernel
theorem dX1_noteBehindMark_152 : decode cX1_noteBehindMark 152 = .ok (.iload 6, 2) := by decide +kernel
theorem dX1_noteBehindMark_154 : decode cX1_noteBehindMark 154 = .ok (.invokevirtual 66, 3) := by decide +kernel
theorem dX1_noteBehindMark_157 : decode cX1_noteBehindMark 157 = .ok (.aload_n 0, 1) := by decide +kernel
theorem dX1_noteBehindMark_158 : decode cX1_noteBehindMark 158 = .ok (.aload_n 1, 1) := by decide +kernel
theorem dX1_noteBehindMark_159 : decode cX1_noteBehindMark 159 = .ok (.iload 4, 2) := by decide +kernel
theorem dX1_noteBehindMark_161 : decode cX1_noteBehindMark 161 = .ok (.iconst 2, 1) := by decide +kernel
theorem dX1_noteBehindMark_162 : decode cX1_noteBehindMark 162 = .ok (.iload_n 3, 1) := by decide +kernel
theorem dX1_noteBehindMark_163 : decode cX1_noteBehindMark 163 = .ok (.imul, 1) := by decide +kernel
theorem dX1_noteBehindMark_164 : decode cX1_noteBehindMark 164 = .ok (.iadd, 1) := by decide +kernel
theorem dX1_noteBehindMark_165 : decode cX1_noteBehindMark 165 = .ok (.iload 5, 2) := by decide +kernel
theorem dX1_noteBehindMark_167 : decode cX1_noteBehindMark 167 = .ok (.iload 6, 2) := by decide +kernel
theorem dX1_noteBehindMark_169 : decode cX1_noteBehindMark 169 = .ok (.invokevirtual 70, 3) := by decide +kernel
theorem dX1_noteBehindMark_172 : decode cX1_noteBehindMark 172 = .ok (.iload 7, 2) := by decide +kernel
theorem dX1_noteBehindMark_174 : decode cX1_noteBehindMark 174 = .ok (.ireturn, 1) := by decide +kernel
theorem dX1_keepDataAndSum_0 : decode cX1_keepDataAndSum 0 = .ok (.aload_n 0, 1) := by decide +kernel
theorem dX1_keepDataAndSum_1 : decode cX1_keepDataAndSum 1 = .ok (.getfield 38, 3) := by decide +kernel
theorem dX1_keepDataAndSum_4 : decode cX1_keepDataAndSum 4 = .ok (.invokestatic 57, 3) := by decide +kernel
theorem dX1_keepDataAndSum_7 : decode cX1_keepDataAndSum 7 = .ok (.istore 5, 2) := by decide +kernel
theorem dX1_keepDataAndSum_9 : decode cX1_keepDataAndSum 9 = .ok (.iload_n 3, 1) := by decide +kernel
theorem dX1_keepDataAndSum_10 : decode cX1_keepDataAndSum 10 = .ok (.iload 4, 2) := by decide +kernel
theorem dX1_keepDataAndSum_12 : decode cX1_keepDataAndSum 12 = .ok (.iadd, 1) := by decide +kernel
theorem dX1_keepDataAndSum_13 : decode cX1_keepDataAndSum 13 = .ok (.istore 6, 2) := by decide +kernel
theorem dX1_keepDataAndSum_15 : decode cX1_keepDataAndSum 15 = .ok (.iconst 1, 1) := by decide +kernel
theorem dX1_keepDataAndSum_16 : decode cX1_keepDataAndSum 16 = .ok (.istore 7, 2) := by decide +kernel
theorem dX1_keepDataAndSum_18 : decode cX1_keepDataAndSum 18 = .ok (.iconst 0, 1) := by decide +kernel
theorem dX1_keepDataAndSum_19 : decode cX1_keepDataAndSum 19 = .ok (.istore 8, 2) := by decide +kernel
theorem dX1_keepDataAndSum_21 : decode cX1_keepDataAndSum 21 = .ok (.iload 8, 2) := by decide +kernel
theorem dX1_keepDataAndSum_23 : decode cX1_keepDataAndSum 23 = .ok (.iconst 4, 1) := by decide +kernel
theorem dX1_keepDataAndSum_24 : decode cX1_keepDataAndSum 24 = .ok (.if_icmp .ge 83, 3) := by decide +kernel
theorem dX1_keepDataAndSum_27 : decode cX1_keepDataAndSum 27 = .ok (.iload 8, 2) := by decide +kernel
theorem dX1_keepDataAndSum_29 : decode cX1_keepDataAndSum 29 = .ok (.iload 4, 2) := by decide +kernel
theorem dX1_keepDataAndSum_31 : decode cX1_keepDataAndSum 31 = .ok (.if_icmp .ge 21, 3) := by decide +kernel
theorem dX1_keepDataAndSum_34 : decode cX1_keepDataAndSum 34 = .ok (.aload_n 1, 1) := by decide +kernel
theorem dX1_keepDataAndSum_35 : decode cX1_keepDataAndSum 35 = .ok (.iload_n 2, 1) := by decide +kernel
theorem dX1_keepDataAndSum_36 : decode cX1_keepDataAndSum 36 = .ok (.iload 8, 2) := by decide +kernel
theorem dX1_keepDataAndSum_38 : decode cX1_keepDataAndSum 38 = .ok (.iload 5, 2) := by decide +kernel
theorem dX1_keepDataAndSum_40 : decode cX1_keepDataAndSum 40 = .ok (.imul, 1) := by decide +kernel
theorem dX1_keepDataAndSum_41 : decode cX1_keepDataAndSum 41 = .ok (.iadd, 1) := by decide +kernel
theorem dX1_keepDataAndSum_42 : decode cX1_keepDataAndSum 42 = .ok (.aload_n 0, 1) := by decide +kernel
theorem dX1_keepDataAndSum_43 : decode cX1_keepDataAndSum 43 = .ok (.getfield 38, 3) := by decide +kernel
theorem dX1_keepDataAndSum_46 : decode cX1_keepDataAndSum 46 = .ok (.invokestatic 62, 3) := by decide +kernel
theorem dX1_keepDataAndSum_49 : decode cX1_keepDataAndSum 49 = .ok (.goto 4, 3) := by decide +kernel
theorem dX1_keepDataAndSum_52 : decode cX1_keepDataAndSum 52 = .ok (.iconst (-1), 1) := by decide +kernel
theorem dX1_keepDataAndSum_53 : decode cX1_keepDataAndSum 53 = .ok (.istore 9, 2) := by decide +kernel
theorem dX1_keepDataAndSum_55 : decode cX1_keepDataAndSum 55 = .ok (.aload_n 0, 1) := by decide +kernel
theorem dX1_keepDataAndSum_56 : decode cX1_keepDataAndSum 56 = .ok (.aload_n 0, 1) := by decide +kernel
theorem dX1_keepDataAndSum_57 : decode cX1_keepDataAndSum 57 = .ok (.getfield 18, 3) := by decide +kernel
theorem dX1_keepDataAndSum_60 : decode cX1_keepDataAndSum 60 = .ok (.iconst 5, 1) := by decide +kernel
theorem dX1_keepDataAndSum_61 : decode cX1_keepDataAndSum 61 = .ok (.iload 8, 2) := by decide +kernel
theorem dX1_keepDataAndSum_63 : decode cX1_keepDataAndSum 63 = .ok (.iadd, 1) := by decide +kernel
theorem dX1_keepDataAndSum_64 : decode cX1_keepDataAndSum 64 = .ok (.iload 9, 2) := by decide +kernel
theorem dX1_keepDataAndSum_66 : decode cX1_keepDataAndSum 66 = .ok (.invokevirtual 66, 3) := by decide +kernel
theorem dX1_keepDataAndSum_69 : decode cX1_keepDataAndSum 69 = .ok (.iload 8, 2) := by decide +kernel
theorem dX1_keepDataAndSum_71 : decode cX1_keepDataAndSum 71 = .ok (.iload 4, 2) := by decide +kernel
theorem dX1_keepDataAndSum_73 : decode cX1_keepDataAndSum 73 = .ok (.if_icmp .ge 28, 3) := by decide +kernel
theorem dX1_keepDataAndSum_76 : decode cX1_keepDataAndSum 76 = .ok (.iload 6, 2) := by decide +kernel
theorem dX1_keepDataAndSum_78 : decode cX1_keepDataAndSum 78 = .ok (.iload 9, 2) := by decide +kernel
theorem dX1_keepDataAndSum_80 : decode cX1_keepDataAndSum 80 = .ok (.iadd, 1) := by decide +kernel
theorem dX1_keepDataAndSum_81 : decode cX1_keepDataAndSum 81 = .ok (.istore 6, 2) := by decide +kernel
theorem dX1_keepDataAndSum_83 : decode cX1_keepDataAndSum 83 = .ok (.iload 7, 2) := by decide +kernel
theorem dX1_keepDataAndSum_85 : decode cX1_keepDataAndSum 85 = .ok (.ifCond .eq 13, 3) := by decide +kernel
theorem dX1_keepDataAndSum_88 : decode cX1_keepDataAndSum 88 = .ok (.iload 9, 2) := by decide +kernel
theorem dX1_keepDataAndSum_90 : decode cX1_keepDataAndSum 90 = .ok (.iconst (-1), 1) := by decide +kernel
theorem dX1_keepDataAndSum_91 : decode cX1_keepDataAndSum 91 = .ok (.if_icmp .eq 7, 3) := by decide +kernel
theorem dX1_keepDataAndSum_94 : decode cX1_keepDataAndSum 94 = .ok (.iconst 1, 1) := by decide +kernel
theorem dX1_keepDataAndSum_95 : decode cX1_keepDataAndSum 95 = .ok (.goto 4, 3) := by decide +kernel
theorem dX1_keepDataAndSum_98 : decode cX1_keepDataAndSum 98 = .ok (.iconst 0, 1) := by decide +kernel
theorem dX1_keepDataAndSum_99 : decode cX1_keepDataAndSum 99 = .ok (.istore 7, 2) := by decide +kernel
theorem dX1_keepDataAndSum_101 : decode cX1_keepDataAndSum 101 = .ok (.iinc 8 1, 3) := by decide +kernel
theorem dX1_keepDataAndSum_104 : decode cX1_keepDataAndSum 104 = .ok (.goto (-83), 3) := by decide +kernel
theorem dX1_keepDataAndSum_107 : decode cX1_keepDataAndSum 107 = .ok (.aload_n 1, 1) := by decide +kernel
theorem dX1_keepDataAndSum_108 : decode cX1_keepDataAndSum 108 = .ok (.iload_n 2, 1) := by decide +kernel
theorem dX1_keepDataAndSum_109 : decode cX1_keepDataAndSum 109 = .ok (.iload 4, 2) := by decide +kernel
theorem dX1_keepDataAndSum_111 : decode cX1_keepDataAndSum 111 = .ok (.iload 5, 2) := by decide +kernel
theorem dX1_keepDataAndSum_113 : decode cX1_keepDataAndSum 113 = .ok (.imul, 1) := by decide +kernel
theorem dX1_keepDataAndSum_114 : decode cX1_keepDataAndSum 114 = .ok (.iadd, 1) := by decide +kernel
theorem dX1_keepDataAndSum_115 : decode cX1_keepDataAndSum 115 = .ok (.aload_n 0, 1) := by decide +kernel
theorem dX1_keepDataAndSum_116 : decode cX1_keepDataAndSum 116 = .ok (.getfield 38, 3) := by decide +kernel
theorem dX1_keepDataAndSum_119 : decode cX1_keepDataAndSum 119 = .ok (.invokestatic 62, 3) := by decide +kernel
theorem dX1_keepDataAndSum_122 : decode cX1_keepDataAndSum 122 = .ok (.istore 8, 2) := by decide +kernel
theorem dX1_keepDataAndSum_124 : decode cX1_keepDataAndSum 124 = .ok (.iload 7, 2) := by decide +kernel
theorem dX1_keepDataAndSum_126 : decode cX1_keepDataAndSum 126 = .ok (.ifCond .eq 18, 3) := by decide +kernel
theorem dX1_keepDataAndSum_129 : decode cX1_keepDataAndSum 129 = .ok (.iload 8, 2) := by decide +kernel
theorem dX1_keepDataAndSum_131 : decode cX1_keepDataAndSum 131 = .ok (.iload 6, 2) := by decide +kernel
theorem dX1_keepDataAndSum_133 : decode cX1_keepDataAndSum 133 = .ok (.sipush 256, 3) := by decide +kernel
theorem dX1_keepDataAndSum_136 : decode cX1_keepDataAndSum 136 = .ok (.irem, 1) := by decide +kernel
theorem dX1_keepDataAndSum_137 : decode cX1_keepDataAndSum 137 = .ok (.if_icmp .ne 7, 3) := by decide +kernel
theorem dX1_keepDataAndSum_140 : decode cX1_keepDataAndSum 140 = .ok (.iconst 1, 1) := by decide +kernel
theorem dX1_keepDataAndSum_141 : decode cX1_keepDataAndSum 141 = .ok (.goto 4, 3) := by decide +kernel
theorem dX1_keepDataAndSum_144 : decode cX1_keepDataAndSum 144 = .ok (.iconst 0, 1) := by decide +kernel
theorem dX1_keepDataAndSum_145 : decode cX1_keepDataAndSum 145 = .ok (.istore 7, 2) := by decide +kernel
theorem dX1_keepDataAndSum_147 : decode cX1_keepDataAndSum 147 = .ok (.aload_n 0, 1) := by decide +kernel
theorem dX1_keepDataAndSum_148 : decode cX1_keepDataAndSum 148 = .ok (.aload_n 0, 1) := by decide +kernel
theorem dX1_keepDataAndSum_149 : decode cX1_keepDataAndSum 149 = .ok (.getfield 18, 3) := by decide +kernel
theorem dX1_keepDataAndSum_152 : decode cX1_keepDataAndSum 152 = .ok (.iconst 4, 1) := by decide +kernel
theorem dX1_keepDataAndSum_153 : decode cX1_keepDataAndSum 153 = .ok (.iload 8, 2) := by decide +kernel
theorem dX1_keepDataAndSum_155 : decode cX1_keepDataAndSum 155 = .ok (.invokevirtual 66, 3) := by decide +kernel
theorem dX1_keepDataAndSum_158 : decode cX1_keepDataAndSum 158 = .ok (.aload_n 0, 1) := by decide +kernel
theorem dX1_keepDataAndSum_159 : decode cX1_keepDataAndSum 159 = .ok (.aload_n 0, 1) := by decide +kernel
theorem dX1_keepDataAndSum_160 : decode cX1_keepDataAndSum 160 = .ok (.getfield 18, 3) := by decide +kernel
theorem dX1_keepDataAndSum_163 : decode cX1_keepDataAndSum 163 = .ok (.iconst 3, 1) := by decide +kernel
theorem dX1_keepDataAndSum_164 : decode cX1_keepDataAndSum 164 = .ok (.iload 7, 2) := by decide +kernel
theorem dX1_keepDataAndSum_166 : decode cX1_keepDataAndSum 166 = .ok (.ifCond .eq 7, 3) := by decide +kernel
theorem dX1_keepDataAndSum_169 : decode cX1_keepDataAndSum 169 = .ok (.iconst 1, 1) := by decide +kernel
theorem dX1_keepDataAndSum_170 : decode cX1_keepDataAndSum 170 = .ok (.goto 4, 3) := by decide +kernel
theorem dX1_keepDataAndSum_173 : decode cX1_keepDataAndSum 173 = .ok (.iconst 0, 1) := by decide +kernel
theorem dX1_keepDataAndSum_174 : decode cX1_keepDataAndSum 174 = .ok (.invokevirtual 66, 3) := by decide +kernel
theorem dX1_keepDataAndSum_177 : decode cX1_keepDataAndSum 177 = .ok (.aload_n 0, 1) := by decide +kernel
theorem dX1_keepDataAndSum_178 : decode cX1_keepDataAndSum 178 = .ok (.dup, 1) := by decide +kernel
theorem dX1_keepDataAndSum_179 : decode cX1_keepDataAndSum 179 = .ok (.getfield 18, 3) := by decide +kernel
theorem dX1_keepDataAndSum_182 : decode cX1_keepDataAndSum 182 = .ok (.iconst 1, 1) := by decide +kernel
theorem dX1_keepDataAndSum_183 : decode cX1_keepDataAndSum 183 = .ok (.iadd, 1) := by decide +kernel
theorem dX1_keepDataAndSum_184 : decode cX1_keepDataAndSum 184 = .ok (.putfield 18, 3) := by decide +kernel
theorem dX1_keepDataAndSum_187 : decode cX1_keepDataAndSum 187 = .ok (.aload_n 0, 1) := by decide +kernel
theorem dX1_keepDataAndSum_188 : decode cX1_keepDataAndSum 188 = .ok (.dup, 1) := by decide +kernel
theorem dX1_keepDataAndSum_189 : decode cX1_keepDataAndSum 189 = .ok (.getfield 22, 3) := by decide +kernel
theorem dX1_keepDataAndSum_192 : decode cX1_keepDataAndSum 192 = .ok (.iload 7, 2) := by decide +kernel
theorem dX1_keepDataAndSum_194 : decode cX1_keepDataAndSum 194 = .ok (.ifCond .eq 7, 3) := by decide +kernel
theorem dX1_keepDataAndSum_197 : decode cX1_keepDataAndSum 197 = .ok (.iconst 1, 1) := by decide +kernel
theorem dX1_keepDataAndSum_198 : decode cX1_keepDataAndSum 198 = .ok (.goto 4, 3) := by decide +kernel
theorem dX1_keepDataAndSum_201 : decode cX1_keepDataAndSum 201 = .ok (.iconst 0, 1) := by decide +kernel
theorem dX1_keepDataAndSum_202 : decode cX1_keepDataAndSum 202 = .ok (.iadd, 1) := by decide +kernel
theorem dX1_keepDataAndSum_203 : decode cX1_keepDataAndSum 203 = .ok (.putfield 22, 3) := by decide +kernel
theorem dX1_keepDataAndSum_206 : decode cX1_keepDataAndSum 206 = .ok (.return_, 1) := by decide +kernel
theorem dX1_planPlainCopy_0 : decode cX1_planPlainCopy 0 = .ok (.aload_n 0, 1) := by decide +kernel
theorem dX1_planPlainCopy_1 : decode cX1_planPlainCopy 1 = .ok (.iconst 0, 1) := by decide +kernel
theorem dX1_planPlainCopy_2 : decode cX1_planPlainCopy 2 = .ok (.putfield 32, 3) := by decide +kernel
theorem dX1_planPlainCopy_5 : decode cX1_planPlainCopy 5 = .ok (.aload_n 0, 1) := by decide +kernel
theorem dX1_planPlainCopy_6 : decode cX1_planPlainCopy 6 = .ok (.iconst 0, 1) := by decide +kernel
theorem dX1_planPlainCopy_7 : decode cX1_planPlainCopy 7 = .ok (.putfield 35, 3) := by decide +kernel
theorem dX1_planPlainCopy_10 : decode cX1_planPlainCopy 10 = .ok (.iconst 0, 1) := by decide +kernel
theorem dX1_planPlainCopy_11 : decode cX1_planPlainCopy 11 = .ok (.istore_n 1, 1) := by decide +kernel
theorem dX1_planPlainCopy_12 : decode cX1_planPlainCopy 12 = .ok (.iload_n 1, 1) := by decide +kernel
theorem dX1_planPlainCopy_13 : decode cX1_planPlainCopy 13 = .ok (.aload_n 0, 1) := by decide +kernel
theorem dX1_planPlainCopy_14 : decode cX1_planPlainCopy 14 = .ok (.getfield 18, 3) := by decide +kernel
theorem dX1_planPlainCopy_17 : decode cX1_planPlainCopy 17 = .ok (.if_icmp .ge 96, 3) := by decide +kernel
theorem dX1_planPlainCopy_20 : decode cX1_planPlainCopy 20 = .ok (.aload_n 0, 1) := by decide +kernel
theorem dX1_planPlainCopy_21 : decode cX1_planPlainCopy 21 = .ok (.iload_n 1, 1) := by decide +kernel
theorem dX1_planPlainCopy_22 : decode cX1_planPlainCopy 22 = .ok (.invokevirtual 74, 3) := by decide +kernel
theorem dX1_planPlainCopy_25 : decode cX1_planPlainCopy 25 = .ok (.ifCond .ne 6, 3) := by decide +kernel
theorem dX1_planPlainCopy_28 : decode cX1_planPlainCopy 28 = .ok (.goto 79, 3) := by decide +kernel
theorem dX1_planPlainCopy_31 : decode cX1_planPlainCopy 31 = .ok (.aload_n 0, 1) := by decide +kernel
theorem dX1_planPlainCopy_32 : decode cX1_planPlainCopy 32 = .ok (.getfield 38, 3) := by decide +kernel
theorem dX1_planPlainCopy_35 : decode cX1_planPlainCopy 35 = .ok (.aload_n 0, 1) := by decide +kernel
theorem dX1_planPlainCopy_36 : decode cX1_planPlainCopy 36 = .ok (.iload_n 1, 1) := by decide +kernel
theorem dX1_planPlainCopy_37 : decode cX1_planPlainCopy 37 = .ok (.iconst 2, 1) := by decide +kernel
theorem dX1_planPlainCopy_38 : decode cX1_planPlainCopy 38 = .ok (.invokevirtual 78, 3) := by decide +kernel
theorem dX1_planPlainCopy_41 : decode cX1_planPlainCopy 41 = .ok (.invokestatic 82, 3) := by decide +kernel
theorem dX1_planPlainCopy_44 : decode cX1_planPlainCopy 44 = .ok (.istore_n 2, 1) := by decide +kernel
theorem dX1_planPlainCopy_45 : decode cX1_planPlainCopy 45 = .ok (.aload_n 0, 1) := by decide +kernel
theorem dX1_planPlainCopy_46 : decode cX1_planPlainCopy 46 = .ok (.getfield 35, 3) := by decide +kernel
theorem dX1_planPlainCopy_49 : decode cX1_planPlainCopy 49 = .ok (.iload_n 2, 1) := by decide +kernel
theorem dX1_planPlainCopy_50 : decode cX1_planPlainCopy 50 = .ok (.iadd, 1) := by decide +kernel
theorem dX1_planPlainCopy_51 : decode cX1_planPlainCopy 51 = .ok (.sipush 400, 3) := by decide +kernel
theorem dX1_planPlainCopy_54 : decode cX1_planPlainCopy 54 = .ok (.if_icmp .gt 22, 3) := by decide +kernel
theorem dX1_planPlainCopy_57 : decode cX1_planPlainCopy 57 = .ok (.aload_n 0, 1) := by decide +kernel
theorem dX1_planPlainCopy_58 : decode cX1_planPlainCopy 58 = .ok (.getfield 32, 3) := by decide +kernel
theorem dX1_planPlainCopy_61 : decode cX1_planPlainCopy 61 = .ok (.ifCond .lt 15, 3) := by decide +kernel
theorem dX1_planPlainCopy_64 : decode cX1_planPlainCopy 64 = .ok (.aload_n 0, 1) := by decide +kernel
theorem dX1_planPlainCopy_65 : decode cX1_planPlainCopy 65 = .ok (.getfield 32, 3) := by decide +kernel
theorem dX1_planPlainCopy_68 : decode cX1_planPlainCopy 68 = .ok (.aload_n 0, 1) := by decide +kernel
theorem dX1_planPlainCopy_69 : decode cX1_planPlainCopy 69 = .ok (.getfield 15, 3) := by decide +kernel
theorem dX1_planPlainCopy_72 : decode cX1_planPlainCopy 72 = .ok (.arraylength, 1) := by decide +kernel
theorem dX1_planPlainCopy_73 : decode cX1_planPlainCopy 73 = .ok (.if_icmp .lt 4, 3) := by decide +kernel
theorem dX1_planPlainCopy_76 : decode cX1_planPlainCopy 76 = .ok (.return_, 1) := by decide +kernel
theorem dX1_planPlainCopy_77 : decode cX1_planPlainCopy 77 = .ok (.aload_n 0, 1) := by decide +kernel
theorem dX1_planPlainCopy_78 : decode cX1_planPlainCopy 78 = .ok (.getfield 15, 3) := by decide +kernel
theorem dX1_planPlainCopy_81 : decode cX1_planPlainCopy 81 = .ok (.aload_n 0, 1) := by decide +kernel
theorem dX1_planPlainCopy_82 : decode cX1_planPlainCopy 82 = .ok (.getfield 32, 3) := by decide +kernel
theorem dX1_planPlainCopy_85 : decode cX1_planPlainCopy 85 = .ok (.iload_n 1, 1) := by decide +kernel
theorem dX1_planPlainCopy_86 : decode cX1_planPlainCopy 86 = .ok (.iastore, 1) := by decide +kernel
theorem dX1_planPlainCopy_87 : decode cX1_planPlainCopy 87 = .ok (.aload_n 0, 1) := by decide +kernel
theorem dX1_planPlainCopy_88 : decode cX1_planPlainCopy 88 = .ok (.dup, 1) := by decide +kernel
theorem dX1_planPlainCopy_89 : decode cX1_planPlainCopy 89 = .ok (.getfield 32, 3) := by decide +kernel
theorem dX1_planPlainCopy_92 : decode cX1_planPlainCopy 92 = .ok (.iconst 1, 1) := by decide +kernel
theorem dX1_planPlainCopy_93 : decode cX1_planPlainCopy 93 = .ok (.iadd, 1) := by decide +kernel
theorem dX1_planPlainCopy_94 : decode cX1_planPlainCopy 94 = .ok (.putfield 32, 3) := by decide +kernel
theorem dX1_planPlainCopy_97 : decode cX1_planPlainCopy 97 = .ok (.aload_n 0, 1) := by decide +kernel
theorem dX1_planPlainCopy_98 : decode cX1_planPlainCopy 98 = .ok (.dup, 1) := by decide +kernel
theorem dX1_planPlainCopy_99 : decode cX1_planPlainCopy 99 = .ok (.getfield 35, 3) := by decide +kernel
theorem dX1_planPlainCopy_102 : decode cX1_planPlainCopy 102 = .ok (.iload_n 2, 1) := by decide +kernel
theorem dX1_planPlainCopy_103 : decode cX1_planPlainCopy 103 = .ok (.iadd, 1) := by decide +kernel
theorem dX1_planPlainCopy_104 : decode cX1_planPlainCopy 104 = .ok (.putfield 35, 3) := by decide +kernel
theorem dX1_planPlainCopy_107 : decode cX1_planPlainCopy 107 = .ok (.iinc 1 1, 3) := by decide +kernel
theorem dX1_planPlainCopy_110 : decode cX1_planPlainCopy 110 = .ok (.goto (-98), 3) := by decide +kernel
theorem dX1_planPlainCopy_113 : decode cX1_planPlainCopy 113 = .ok (.return_, 1) := by decide +kernel
theorem dX1_plainSector_0 : decode cX1_plainSector 0 = .ok (.iload_n 1, 1) := by decide +kernel
theorem dX1_plainSector_1 : decode cX1_plainSector 1 = .ok (.ifCond .lt 29, 3) := by decide +kernel
theorem dX1_plainSector_4 : decode cX1_plainSector 4 = .ok (.iload_n 1, 1) := by decide +kernel
theorem dX1_plainSector_5 : decode cX1_plainSector 5 = .ok (.aload_n 0, 1) := by decide +kernel
theorem dX1_plainSector_6 : decode cX1_plainSector 6 = .ok (.getfield 32, 3) := by decide +kernel
theorem dX1_plainSector_9 : decode cX1_plainSector 9 = .ok (.if_icmp .ge 21, 3) := by decide +kernel
theorem dX1_plainSector_12 : decode cX1_plainSector 12 = .ok (.iload_n 1, 1) := by decide +kernel
theorem dX1_plainSector_13 : decode cX1_plainSector 13 = .ok (.aload_n 0, 1) := by decide +kernel
theorem dX1_plainSector_14 : decode cX1_plainSector 14 = .ok (.getfield 15, 3) := by decide +kernel
theorem dX1_plainSector_17 : decode cX1_plainSector 17 = .ok (.arraylength, 1) := by decide +kernel
theorem dX1_plainSector_18 : decode cX1_plainSector 18 = .ok (.if_icmp .ge 12, 3) := by decide +kernel
theorem dX1_plainSector_21 : decode cX1_plainSector 21 = .ok (.aload_n 0, 1) := by decide +kernel
theorem dX1_plainSector_22 : decode cX1_plainSector 22 = .ok (.getfield 15, 3) := by decide +kernel
theorem dX1_plainSector_25 : decode cX1_plainSector 25 = .ok (.iload_n 1, 1) := by decide +kernel
theorem dX1_plainSector_26 : decode cX1_plainSector 26 = .ok (.iaload, 1) := by decide +kernel
theorem dX1_plainSector_27 : decode cX1_plainSector 27 = .ok (.goto 4, 3) := by decide +kernel
theorem dX1_plainSector_30 : decode cX1_plainSector 30 = .ok (.iconst (-1), 1) := by decide +kernel
theorem dX1_plainSector_31 : decode cX1_plainSector 31 = .ok (.ireturn, 1) := by decide +kernel
theorem dX1_setValue_0 : decode cX1_setValue 0 = .ok (.iload_n 1, 1) := by decide +kernel
theorem dX1_setValue_1 : decode cX1_setValue 1 = .ok (.bipush 9, 2) := by decide +kernel
theorem dX1_setValue_3 : decode cX1_setValue 3 = .ok (.imul, 1) := by decide +kernel
theorem dX1_setValue_4 : decode cX1_setValue 4 = .ok (.iload_n 2, 1) := by decide +kernel
theorem dX1_setValue_5 : decode cX1_setValue 5 = .ok (.iadd, 1) := by decide +kernel
theorem dX1_setValue_6 : decode cX1_setValue 6 = .ok (.istore 4, 2) := by decide +kernel
theorem dX1_setValue_8 : decode cX1_setValue 8 = .ok (.iload 4, 2) := by decide +kernel
theorem dX1_setValue_10 : decode cX1_setValue 10 = .ok (.ifCond .lt 21, 3) := by decide +kernel
theorem dX1_setValue_13 : decode cX1_setValue 13 = .ok (.iload 4, 2) := by decide +kernel
theorem dX1_setValue_15 : decode cX1_setValue 15 = .ok (.aload_n 0, 1) := by decide +kernel
theorem dX1_setValue_16 : decode cX1_setValue 16 = .ok (.getfield 11, 3) := by decide +kernel
theorem dX1_setValue_19 : decode cX1_setValue 19 = .ok (.arraylength, 1) := by decide +kernel
theorem dX1_setValue_20 : decode cX1_setValue 20 = .ok (.if_icmp .ge 11, 3) := by decide +kernel
theorem dX1_setValue_23 : decode cX1_setValue 23 = .ok (.aload_n 0, 1) := by decide +kernel
theorem dX1_setValue_24 : decode cX1_setValue 24 = .ok (.getfield 11, 3) := by decide +kernel
theorem dX1_setValue_27 : decode cX1_setValue 27 = .ok (.iload 4, 2) := by decide +kernel
theorem dX1_setValue_29 : decode cX1_setValue 29 = .ok (.iload_n 3, 1) := by decide +kernel
theorem dX1_setValue_30 : decode cX1_setValue 30 = .ok (.iastore, 1) := by decide +kernel
theorem dX1_setValue_31 : decode cX1_setValue 31 = .ok (.return_, 1) := by decide +kernel
theorem dX1_valueOf_0 : decode cX1_valueOf 0 = .ok (.iload_n 1, 1) := by decide +kernel
theorem dX1_valueOf_1 : decode cX1_valueOf 1 = .ok (.bipush 9, 2) := by decide +kernel
theorem dX1_valueOf_3 : decode cX1_valueOf 3 = .ok (.imul, 1) := by decide +kernel
theorem dX1_valueOf_4 : decode cX1_valueOf 4 = .ok (.iload_n 2, 1) := by decide +kernel
theorem dX1_valueOf_5 : decode cX1_valueOf 5 = .ok (.iadd, 1) := by decide +kernel
theorem dX1_valueOf_6 : decode cX1_valueOf 6 = .ok (.istore_n 3, 1) := by decide +kernel
theorem dX1_valueOf_7 : decode cX1_valueOf 7 = .ok (.iload_n 3, 1) := by decide +kernel
theorem dX1_valueOf_8 : decode cX1_valueOf 8 = .ok (.ifCond .lt 21, 3) := by decide +kernel
theorem dX1_valueOf_11 : decode cX1_valueOf 11 = .ok (.iload_n 3, 1) := by decide +kernel
theorem dX1_valueOf_12 : decode cX1_valueOf 12 = .ok (.aload_n 0, 1) := by decide +kernel
theorem dX1_valueOf_13 : decode cX1_valueOf 13 = .ok (.getfield 11, 3) := by decide +kernel
theorem dX1_valueOf_16 : decode cX1_valueOf 16 = .ok (.arraylength, 1) := by decide +kernel
theorem dX1_valueOf_17 : decode cX1_valueOf 17 = .ok (.if_icmp .ge 12, 3) := by decide +kernel
theorem dX1_valueOf_20 : decode cX1_valueOf 20 = .ok (.aload_n 0, 1) := by decide +kernel
theorem dX1_valueOf_21 : decode cX1_valueOf 21 = .ok (.getfield 11, 3) := by decide +kernel
theorem dX1_valueOf_24 : decode cX1_valueOf 24 = .ok (.iload_n 3, 1) := by decide +kernel
theorem dX1_valueOf_25 : decode cX1_valueOf 25 = .ok (.iaload, 1) := by decide +kernel
theorem dX1_valueOf_26 : decode cX1_valueOf 26 = .ok (.goto 4, 3) := by decide +kernel
theorem dX1_valueOf_29 : decode cX1_valueOf 29 = .ok (.iconst (-1), 1) := by decide +kernel
theorem dX1_valueOf_30 : decode cX1_valueOf 30 = .ok (.ireturn, 1) := by decide +kernel
theorem dX1_firstGood_0 : decode cX1_firstGood 0 = .ok (.iconst 0, 1) := by decide +kernel
theorem dX1_firstGood_1 : decode cX1_firstGood 1 = .ok (.istore_n 2, 1) := by decide +kernel
theorem dX1_firstGood_2 : decode cX1_firstGood 2 = .ok (.iload_n 2, 1) := by decide +kernel
theorem dX1_firstGood_3 : decode cX1_firstGood 3 = .ok (.aload_n 0, 1) := by decide +kernel
theorem dX1_firstGood_4 : decode cX1_firstGood 4 = .ok (.getfield 18, 3) := by decide +kernel
theorem dX1_firstGood_7 : decode cX1_firstGood 7 = .ok (.if_icmp .ge 31, 3) := by decide +kernel
theorem dX1_firstGood_10 : decode cX1_firstGood 10 = .ok (.aload_n 0, 1) := by decide +kernel
theorem dX1_firstGood_11 : decode cX1_firstGood 11 = .ok (.iload_n 2, 1) := by decide +kernel
theorem dX1_firstGood_12 : decode cX1_firstGood 12 = .ok (.iconst 3, 1) := by decide +kernel
theorem dX1_firstGood_13 : decode cX1_firstGood 13 = .ok (.invokevirtual 78, 3) := by decide +kernel
theorem dX1_firstGood_16 : decode cX1_firstGood 16 = .ok (.iconst 1, 1) := by decide +kernel
theorem dX1_firstGood_17 : decode cX1_firstGood 17 = .ok (.if_icmp .ne 15, 3) := by decide +kernel
theorem dX1_firstGood_20 : decode cX1_firstGood 20 = .ok (.aload_n 0, 1) := by decide +kernel
theorem dX1_firstGood_21 : decode cX1_firstGood 21 = .ok (.iload_n 2, 1) := by decide +kernel
theorem dX1_firstGood_22 : decode cX1_firstGood 22 = .ok (.iconst 1, 1) := by decide +kernel
theorem dX1_firstGood_23 : decode cX1_firstGood 23 = .ok (.invokevirtual 78, 3) := by decide +kernel
theorem dX1_firstGood_26 : decode cX1_firstGood 26 = .ok (.iload_n 1, 1) := by decide +kernel
theorem dX1_firstGood_27 : decode cX1_firstGood 27 = .ok (.if_icmp .ne 5, 3) := by decide +kernel
theorem dX1_firstGood_30 : decode cX1_firstGood 30 = .ok (.iload_n 2, 1) := by decide +kernel
theorem dX1_firstGood_31 : decode cX1_firstGood 31 = .ok (.ireturn, 1) := by decide +kernel
theorem dX1_firstGood_32 : decode cX1_firstGood 32 = .ok (.iinc 2 1, 3) := by decide +kernel
theorem dX1_firstGood_35 : decode cX1_firstGood 35 = .ok (.goto (-33), 3) := by decide +kernel
theorem dX1_firstGood_38 : decode cX1_firstGood 38 = .ok (.iconst (-1), 1) := by decide +kernel
theorem dX1_firstGood_39 : decode cX1_firstGood 39 = .ok (.ireturn, 1) := by decide +kernel
theorem dX1_isFirstGood_0 : decode cX1_isFirstGood 0 = .ok (.aload_n 0, 1) := by decide +kernel
theorem dX1_isFirstGood_1 : decode cX1_isFirstGood 1 = .ok (.aload_n 0, 1) := by decide +kernel
theorem dX1_isFirstGood_2 : decode cX1_isFirstGood 2 = .ok (.iload_n 1, 1) := by decide +kernel
theorem dX1_isFirstGood_3 : decode cX1_isFirstGood 3 = .ok (.iconst 1, 1) := by decide +kernel
theorem dX1_isFirstGood_4 : decode cX1_isFirstGood 4 = .ok (.invokevirtual 78, 3) := by decide +kernel
theorem dX1_isFirstGood_7 : decode cX1_isFirstGood 7 = .ok (.invokevirtual 85, 3) := by decide +kernel
theorem dX1_isFirstGood_10 : decode cX1_isFirstGood 10 = .ok (.iload_n 1, 1) := by decide +kernel
theorem dX1_isFirstGood_11 : decode cX1_isFirstGood 11 = .ok (.if_icmp .ne 7, 3) := by decide +kernel
theorem dX1_isFirstGood_14 : decode cX1_isFirstGood 14 = .ok (.iconst 1, 1) := by decide +kernel
theorem dX1_isFirstGood_15 : decode cX1_isFirstGood 15 = .ok (.goto 4, 3) := by decide +kernel
theorem dX1_isFirstGood_18 : decode cX1_isFirstGood 18 = .ok (.iconst 0, 1) := by decide +kernel
theorem dX1_isFirstGood_19 : decode cX1_isFirstGood 19 = .ok (.ireturn, 1) := by decide +kernel
theorem dX1_hasTwins_0 : decode cX1_hasTwins 0 = .ok (.iconst 0, 1) := by decide +kernel
theorem dX1_hasTwins_1 : decode cX1_hasTwins 1 = .ok (.istore_n 1, 1) := by decide +kernel
theorem dX1_hasTwins_2 : decode cX1_hasTwins 2 = .ok (.iload_n 1, 1) := by decide +kernel
theorem dX1_hasTwins_3 : decode cX1_hasTwins 3 = .ok (.aload_n 0, 1) := by decide +kernel
theorem dX1_hasTwins_4 : decode cX1_hasTwins 4 = .ok (.getfield 18, 3) := by decide +kernel
theorem dX1_hasTwins_7 : decode cX1_hasTwins 7 = .ok (.if_icmp .ge 44, 3) := by decide +kernel
theorem dX1_hasTwins_10 : decode cX1_hasTwins 10 = .ok (.iload_n 1, 1) := by decide +kernel
theorem dX1_hasTwins_11 : decode cX1_hasTwins 11 = .ok (.iconst 1, 1) := by decide +kernel
theorem dX1_hasTwins_12 : decode cX1_hasTwins 12 = .ok (.iadd, 1) := by decide +kernel
theorem dX1_hasTwins_13 : decode cX1_hasTwins 13 = .ok (.istore_n 2, 1) := by decide +kernel
theorem dX1_hasTwins_14 : decode cX1_hasTwins 14 = .ok (.iload_n 2, 1) := by decide +kernel
theorem dX1_hasTwins_15 : decode cX1_hasTwins 15 = .ok (.aload_n 0, 1) := by decide +kernel
theorem dX1_hasTwins_16 : decode cX1_hasTwins 16 = .ok (.getfield 18, 3) := by decide +kernel
theorem dX1_hasTwins_19 : decode cX1_hasTwins 19 = .ok (.if_icmp .ge 26, 3) := by decide +kernel
theorem dX1_hasTwins_22 : decode cX1_hasTwins 22 = .ok (.aload_n 0, 1) := by decide +kernel
theorem dX1_hasTwins_23 : decode cX1_hasTwins 23 = .ok (.iload_n 1, 1) := by decide +kernel
theorem dX1_hasTwins_24 : decode cX1_hasTwins 24 = .ok (.iconst 1, 1) := by decide +kernel
theorem dX1_hasTwins_25 : decode cX1_hasTwins 25 = .ok (.invokevirtual 78, 3) := by decide +kernel
theorem dX1_hasTwins_28 : decode cX1_hasTwins 28 = .ok (.aload_n 0, 1) := by decide +kernel
theorem dX1_hasTwins_29 : decode cX1_hasTwins 29 = .ok (.iload_n 2, 1) := by decide +kernel
theorem dX1_hasTwins_30 : decode cX1_hasTwins 30 = .ok (.iconst 1, 1) := by decide +kernel
theorem dX1_hasTwins_31 : decode cX1_hasTwins 31 = .ok (.invokevirtual 78, 3) := by decide +kernel
theorem dX1_hasTwins_34 : decode cX1_hasTwins 34 = .ok (.if_icmp .ne 5, 3) := by decide +kernel
theorem dX1_hasTwins_37 : decode cX1_hasTwins 37 = .ok (.iconst 1, 1) := by decide +kernel
theorem dX1_hasTwins_38 : decode cX1_hasTwins 38 = .ok (.ireturn, 1) := by decide +kernel
theorem dX1_hasTwins_39 : decode cX1_hasTwins 39 = .ok (.iinc 2 1, 3) := by decide +kernel
theorem dX1_hasTwins_42 : decode cX1_hasTwins 42 = .ok (.goto (-28), 3) := by decide +kernel
theorem dX1_hasTwins_45 : decode cX1_hasTwins 45 = .ok (.iinc 1 1, 3) := by decide +kernel
theorem dX1_hasTwins_48 : decode cX1_hasTwins 48 = .ok (.goto (-46), 3) := by decide +kernel
theorem dX1_hasTwins_51 : decode cX1_hasTwins 51 = .ok (.iconst 0, 1) := by decide +kernel
theorem dX1_hasTwins_52 : decode cX1_hasTwins 52 = .ok (.ireturn, 1) := by decide +kernel
theorem dX1_dataOf_0 : decode cX1_dataOf 0 = .ok (.iconst 0, 1) := by decide +kernel
theorem dX1_dataOf_1 : decode cX1_dataOf 1 = .ok (.istore_n 2, 1) := by decide +kernel
theorem dX1_dataOf_2 : decode cX1_dataOf 2 = .ok (.iconst 0, 1) := by decide +kernel
theorem dX1_dataOf_3 : decode cX1_dataOf 3 = .ok (.istore_n 3, 1) := by decide +kernel
theorem dX1_dataOf_4 : decode cX1_dataOf 4 = .ok (.iload_n 3, 1) := by decide +kernel
theorem dX1_dataOf_5 : decode cX1_dataOf 5 = .ok (.iconst 4, 1) := by decide +kernel
theorem dX1_dataOf_6 : decode cX1_dataOf 6 = .ok (.if_icmp .ge 29, 3) := by decide +kernel
theorem dX1_dataOf_9 : decode cX1_dataOf 9 = .ok (.iload_n 2, 1) := by decide +kernel
theorem dX1_dataOf_10 : decode cX1_dataOf 10 = .ok (.aload_n 0, 1) := by decide +kernel
theorem dX1_dataOf_11 : decode cX1_dataOf 11 = .ok (.iload_n 1, 1) := by decide +kernel
theorem dX1_dataOf_12 : decode cX1_dataOf 12 = .ok (.iconst 5, 1) := by decide +kernel
theorem dX1_dataOf_13 : decode cX1_dataOf 13 = .ok (.iload_n 3, 1) := by decide +kernel
theorem dX1_dataOf_14 : decode cX1_dataOf 14 = .ok (.iadd, 1) := by decide +kernel
theorem dX1_dataOf_15 : decode cX1_dataOf 15 = .ok (.invokevirtual 78, 3) := by decide +kernel
theorem dX1_dataOf_18 : decode cX1_dataOf 18 = .ok (.sipush 255, 3) := by decide +kernel
theorem dX1_dataOf_21 : decode cX1_dataOf 21 = .ok (.iand, 1) := by decide +kernel
theorem dX1_dataOf_22 : decode cX1_dataOf 22 = .ok (.bipush 8, 2) := by decide +kernel
theorem dX1_dataOf_24 : decode cX1_dataOf 24 = .ok (.iload_n 3, 1) := by decide +kernel
theorem dX1_dataOf_25 : decode cX1_dataOf 25 = .ok (.imul, 1) := by decide +kernel
theorem dX1_dataOf_26 : decode cX1_dataOf 26 = .ok (.ishl, 1) := by decide +kernel
theorem dX1_dataOf_27 : decode cX1_dataOf 27 = .ok (.ior, 1) := by decide +kernel
theorem dX1_dataOf_28 : decode cX1_dataOf 28 = .ok (.istore_n 2, 1) := by decide +kernel
theorem dX1_dataOf_29 : decode cX1_dataOf 29 = .ok (.iinc 3 1, 3) := by decide +kernel
theorem dX1_dataOf_32 : decode cX1_dataOf 32 = .ok (.goto (-28), 3) := by decide +kernel
theorem dX1_dataOf_35 : decode cX1_dataOf 35 = .ok (.iload_n 2, 1) := by decide +kernel
theorem dX1_dataOf_36 : decode cX1_dataOf 36 = .ok (.ireturn, 1) := by decide +kernel
theorem dX2_init_0 : decode cX2_init 0 = .ok (.aload_n 0, 1) := by decide +kernel
theorem dX2_init_1 : decode cX2_init 1 = .ok (.invokespecial 3, 3) := by decide +kernel
theorem dX2_init_4 : decode cX2_init 4 = .ok (.aload_n 0, 1) := by decide +kernel
theorem dX2_init_5 : decode cX2_init 5 = .ok (.sipush 400, 3) := by decide +kernel
theorem dX2_init_8 : decode cX2_init 8 = .ok (.newarray .int, 2) := by decide +kernel
theorem dX2_init_10 : decode cX2_init 10 = .ok (.putfield 9, 3) := by decide +kernel
theorem dX2_init_13 : decode cX2_init 13 = .ok (.aload_n 0, 1) := by decide +kernel
theorem dX2_init_14 : decode cX2_init 14 = .ok (.iconst 0, 1) := by decide +kernel
theorem dX2_init_15 : decode cX2_init 15 = .ok (.putfield 15, 3) := by decide +kernel
theorem dX2_init_18 : decode cX2_init 18 = .ok (.aload_n 0, 1) := by decide +kernel
theorem dX2_init_19 : decode cX2_init 19 = .ok (.iconst 1, 1) := by decide +kernel
theorem dX2_init_20 : decode cX2_init 20 = .ok (.putfield 19, 3) := by decide +kernel
theorem dX2_init_23 : decode cX2_init 23 = .ok (.return_, 1) := by decide +kernel
theorem dX2_empty_0 : decode cX2_empty 0 = .ok (.aload_n 0, 1) := by decide +kernel
theorem dX2_empty_1 : decode cX2_empty 1 = .ok (.iconst 0, 1) := by decide +kernel
theorem dX2_empty_2 : decode cX2_empty 2 = .ok (.putfield 15, 3) := by decide +kernel
theorem dX2_empty_5 : decode cX2_empty 5 = .ok (.aload_n 0, 1) := by decide +kernel
theorem dX2_empty_6 : decode cX2_empty 6 = .ok (.iconst 1, 1) := by decide +kernel
theorem dX2_empty_7 : decode cX2_empty 7 = .ok (.putfield 19, 3) := by decide +kernel
theorem dX2_empty_10 : decode cX2_empty 10 = .ok (.return_, 1) := by decide +kernel
theorem dX2_put_0 : decode cX2_put 0 = .ok (.aload_n 0, 1) := by decide +kernel
theorem dX2_put_1 : decode cX2_put 1 = .ok (.getfield 15, 3) := by decide +kernel
theorem dX2_put_4 : decode cX2_put 4 = .ok (.ifCond .lt 15, 3) := by decide +kernel
theorem dX2_put_7 : decode cX2_put 7 = .ok (.aload_n 0, 1) := by decide +kernel
theorem dX2_put_8 : decode cX2_put 8 = .ok (.getfield 15, 3) := by decide +kernel
theorem dX2_put_11 : decode cX2_put 11 = .ok (.aload_n 0, 1) := by decide +kernel
theorem dX2_put_12 : decode cX2_put 12 = .ok (.getfield 9, 3) := by decide +kernel
theorem dX2_put_15 : decode cX2_put 15 = .ok (.arraylength, 1) := by decide +kernel
theorem dX2_put_16 : decode cX2_put 16 = .ok (.if_icmp .lt 4, 3) := by decide +kernel
theorem dX2_put_19 : decode cX2_put 19 = .ok (.return_, 1) := by decide +kernel
theorem dX2_put_20 : decode cX2_put 20 = .ok (.aload_n 0, 1) := by decide +kernel
theorem dX2_put_21 : decode cX2_put 21 = .ok (.getfield 9, 3) := by decide +kernel
theorem dX2_put_24 : decode cX2_put 24 = .ok (.aload_n 0, 1) := by decide +kernel
theorem dX2_put_25 : decode cX2_put 25 = .ok (.getfield 15, 3) := by decide +kernel
theorem dX2_put_28 : decode cX2_put 28 = .ok (.iload_n 1, 1) := by decide +kernel
theorem dX2_put_29 : decode cX2_put 29 = .ok (.iastore, 1) := by decide +kernel
theorem dX2_put_30 : decode cX2_put 30 = .ok (.aload_n 0, 1) := by decide +kernel
theorem dX2_put_31 : decode cX2_put 31 = .ok (.dup, 1) := by decide +kernel
theorem dX2_put_32 : decode cX2_put 32 = .ok (.getfield 15, 3) := by decide +kernel
theorem dX2_put_35 : decode cX2_put 35 = .ok (.iconst 1, 1) := by decide +kernel
theorem dX2_put_36 : decode cX2_put 36 = .ok (.iadd, 1) := by decide +kernel
theorem dX2_put_37 : decode cX2_put 37 = .ok (.putfield 15, 3) := by decide +kernel
theorem dX2_put_40 : decode cX2_put 40 = .ok (.aload_n 0, 1) := by decide +kernel
theorem dX2_put_41 : decode cX2_put 41 = .ok (.iconst 3, 1) := by decide +kernel
theorem dX2_put_42 : decode cX2_put 42 = .ok (.aload_n 0, 1) := by decide +kernel
theorem dX2_put_43 : decode cX2_put 43 = .ok (.getfield 19, 3) := by decide +kernel
theorem dX2_put_46 : decode cX2_put 46 = .ok (.imul, 1) := by decide +kernel
theorem dX2_put_47 : decode cX2_put 47 = .ok (.iload_n 1, 1) := by decide +kernel
theorem dX2_put_48 : decode cX2_put 48 = .ok (.iadd, 1) := by decide +kernel
theorem dX2_put_49 : decode cX2_put 49 = .ok (.putfield 19, 3) := by decide +kernel
theorem dX2_put_52 : decode cX2_put 52 = .ok (.return_, 1) := by decide +kernel
theorem dX2_at_0 : decode cX2_at 0 = .ok (.iload_n 1, 1) := by decide +kernel
theorem dX2_at_1 : decode cX2_at 1 = .ok (.ifCond .lt 29, 3) := by decide +kernel
theorem dX2_at_4 : decode cX2_at 4 = .ok (.iload_n 1, 1) := by decide +kernel
theorem dX2_at_5 : decode cX2_at 5 = .ok (.aload_n 0, 1) := by decide +kernel
theorem dX2_at_6 : decode cX2_at 6 = .ok (.getfield 15, 3) := by decide +kernel
theorem dX2_at_9 : decode cX2_at 9 = .ok (.if_icmp .ge 21, 3) := by decide +kernel
theorem dX2_at_12 : decode cX2_at 12 = .ok (.iload_n 1, 1) := by decide +kernel
theorem dX2_at_13 : decode cX2_at 13 = .ok (.aload_n 0, 1) := by decide +kernel
theorem dX2_at_14 : decode cX2_at 14 = .ok (.getfield 9, 3) := by decide +kernel
theorem dX2_at_17 : decode cX2_at 17 = .ok (.arraylength, 1) := by decide +kernel
theorem dX2_at_18 : decode cX2_at 18 = .ok (.if_icmp .ge 12, 3) := by decide +kernel
theorem dX2_at_21 : decode cX2_at 21 = .ok (.aload_n 0, 1) := by decide +kernel
theorem dX2_at_22 : decode cX2_at 22 = .ok (.getfield 9, 3) := by decide +kernel
theorem dX2_at_25 : decode cX2_at 25 = .ok (.iload_n 1, 1) := by decide +kernel
theorem dX2_at_26 : decode cX2_at 26 = .ok (.iaload, 1) := by decide +kernel
theorem dX2_at_27 : decode cX2_at 27 = .ok (.goto 4, 3) := by decide +kernel
theorem dX2_at_30 : decode cX2_at 30 = .ok (.iconst 0, 1) := by decide +kernel
theorem dX2_at_31 : decode cX2_at 31 = .ok (.ireturn, 1) := by decide +kernel
theorem dX5_init_0 : decode cX5_init 0 = .ok (.aload_n 0, 1) := by decide +kernel
theorem dX5_init_1 : decode cX5_init 1 = .ok (.invokespecial 1, 3) := by decide +kernel
theorem dX5_init_4 : decode cX5_init 4 = .ok (.aload_n 0, 1) := by decide +kernel
theorem dX5_init_5 : decode cX5_init 5 = .ok (.new 7, 3) := by decide +kernel
theorem dX5_init_8 : decode cX5_init 8 = .ok (.dup, 1) := by decide +kernel
theorem dX5_init_9 : decode cX5_init 9 = .ok (.invokespecial 9, 3) := by decide +kernel
theorem dX5_init_12 : decode cX5_init 12 = .ok (.putfield 10, 3) := by decide +kernel
theorem dX5_init_15 : decode cX5_init 15 = .ok (.aload_n 0, 1) := by decide +kernel
theorem dX5_init_16 : decode cX5_init 16 = .ok (.ldc2_w 16, 3) := by decide +kernel
theorem dX5_init_19 : decode cX5_init 19 = .ok (.putfield 18, 3) := by decide +kernel
theorem dX5_init_22 : decode cX5_init 22 = .ok (.return_, 1) := by decide +kernel
theorem dX5_begin_0 : decode cX5_begin 0 = .ok (.aload_n 0, 1) := by decide +kernel
theorem dX5_begin_1 : decode cX5_begin 1 = .ok (.getfield 10, 3) := by decide +kernel
theorem dX5_begin_4 : decode cX5_begin 4 = .ok (.invokevirtual 22, 3) := by decide +kernel
theorem dX5_begin_7 : decode cX5_begin 7 = .ok (.aload_n 0, 1) := by decide +kernel
theorem dX5_begin_8 : decode cX5_begin 8 = .ok (.ldc2_w 16, 3) := by decide +kernel
theorem dX5_begin_11 : decode cX5_begin 11 = .ok (.putfield 18, 3) := by decide +kernel
theorem dX5_begin_14 : decode cX5_begin 14 = .ok (.return_, 1) := by decide +kernel
theorem dX5_hear_0 : decode cX5_hear 0 = .ok (.iconst 1, 1) := by decide +kernel
theorem dX5_hear_1 : decode cX5_hear 1 = .ok (.iload_n 1, 1) := by decide +kernel
theorem dX5_hear_2 : decode cX5_hear 2 = .ok (.i2d, 1) := by decide +kernel
theorem dX5_hear_3 : decode cX5_hear 3 = .ok (.aload_n 0, 1) := by decide +kernel
theorem dX5_hear_4 : decode cX5_hear 4 = .ok (.getfield 18, 3) := by decide +kernel
theorem dX5_hear_7 : decode cX5_hear 7 = .ok (.ddiv, 1) := by decide +kernel
theorem dX5_hear_8 : decode cX5_hear 8 = .ok (.invokestatic 25, 3) := by decide +kernel
theorem dX5_hear_11 : decode cX5_hear 11 = .ok (.invokestatic 29, 3) := by decide +kernel
theorem dX5_hear_14 : decode cX5_hear 14 = .ok (.istore_n 2, 1) := by decide +kernel
theorem dX5_hear_15 : decode cX5_hear 15 = .ok (.iconst 1, 1) := by decide +kernel
theorem dX5_hear_16 : decode cX5_hear 16 = .ok (.istore_n 3, 1) := by decide +kernel
theorem dX5_hear_17 : decode cX5_hear 17 = .ok (.iload_n 3, 1) := by decide +kernel
theorem dX5_hear_18 : decode cX5_hear 18 = .ok (.iload_n 2, 1) := by decide +kernel
theorem dX5_hear_19 : decode cX5_hear 19 = .ok (.if_icmp .ge 17, 3) := by decide +kernel
theorem dX5_hear_22 : decode cX5_hear 22 = .ok (.aload_n 0, 1) := by decide +kernel
theorem dX5_hear_23 : decode cX5_hear 23 = .ok (.getfield 10, 3) := by decide +kernel
theorem dX5_hear_26 : decode cX5_hear 26 = .ok (.iconst 0, 1) := by decide +kernel
theorem dX5_hear_27 : decode cX5_hear 27 = .ok (.invokevirtual 35, 3) := by decide +kernel
theorem dX5_hear_30 : decode cX5_hear 30 = .ok (.iinc 3 1, 3) := by decide +kernel
theorem dX5_hear_33 : decode cX5_hear 33 = .ok (.goto (-16), 3) := by decide +kernel
theorem dX5_hear_36 : decode cX5_hear 36 = .ok (.aload_n 0, 1) := by decide +kernel
theorem dX5_hear_37 : decode cX5_hear 37 = .ok (.getfield 10, 3) := by decide +kernel
theorem dX5_hear_40 : decode cX5_hear 40 = .ok (.iconst 1, 1) := by decide +kernel
theorem dX5_hear_41 : decode cX5_hear 41 = .ok (.invokevirtual 35, 3) := by decide +kernel
theorem dX5_hear_44 : decode cX5_hear 44 = .ok (.aload_n 0, 1) := by decide +kernel
theorem dX5_hear_45 : decode cX5_hear 45 = .ok (.aload_n 0, 1) := by decide +kernel
theorem dX5_hear_46 : decode cX5_hear 46 = .ok (.getfield 18, 3) := by decide +kernel
theorem dX5_hear_49 : decode cX5_hear 49 = .ok (.iload_n 1, 1) := by decide +kernel
theorem dX5_hear_50 : decode cX5_hear 50 = .ok (.i2d, 1) := by decide +kernel
theorem dX5_hear_51 : decode cX5_hear 51 = .ok (.iload_n 2, 1) := by decide +kernel
theorem dX5_hear_52 : decode cX5_hear 52 = .ok (.i2d, 1) := by decide +kernel
theorem dX5_hear_53 : decode cX5_hear 53 = .ok (.ddiv, 1) := by decide +kernel
theorem dX5_hear_54 : decode cX5_hear 54 = .ok (.aload_n 0, 1) := by decide +kernel
theorem dX5_hear_55 : decode cX5_hear 55 = .ok (.getfield 18, 3) := by decide +kernel
theorem dX5_hear_58 : decode cX5_hear 58 = .ok (.dsub, 1) := by decide +kernel
theorem dX5_hear_59 : decode cX5_hear 59 = .ok (.ldc2_w 39, 3) := by decide +kernel
theorem dX5_hear_62 : decode cX5_hear 62 = .ok (.dmul, 1) := by decide +kernel
theorem dX5_hear_63 : decode cX5_hear 63 = .ok (.dadd, 1) := by decide +kernel
theorem dX5_hear_64 : decode cX5_hear 64 = .ok (.invokestatic 41, 3) := by decide +kernel
theorem dX5_hear_67 : decode cX5_hear 67 = .ok (.putfield 18, 3) := by decide +kernel
theorem dX5_hear_70 : decode cX5_hear 70 = .ok (.return_, 1) := by decide +kernel
theorem dX5_nearestEven_0 : decode cX5_nearestEven 0 = .ok (.dload_n 0, 1) := by decide +kernel
theorem dX5_nearestEven_1 : decode cX5_nearestEven 1 = .ok (.d2i, 1) := by decide +kernel
theorem dX5_nearestEven_2 : decode cX5_nearestEven 2 = .ok (.istore_n 2, 1) := by decide +kernel
theorem dX5_nearestEven_3 : decode cX5_nearestEven 3 = .ok (.dload_n 0, 1) := by decide +kernel
theorem dX5_nearestEven_4 : decode cX5_nearestEven 4 = .ok (.iload_n 2, 1) := by decide +kernel
theorem dX5_nearestEven_5 : decode cX5_nearestEven 5 = .ok (.i2d, 1) := by decide +kernel
theorem dX5_nearestEven_6 : decode cX5_nearestEven 6 = .ok (.dsub, 1) := by decide +kernel
theorem dX5_nearestEven_7 : decode cX5_nearestEven 7 = .ok (.dstore_n 3, 1) := by decide +kernel
theorem dX5_nearestEven_8 : decode cX5_nearestEven 8 = .ok (.dload_n 3, 1) := by decide +kernel
theorem dX5_nearestEven_9 : decode cX5_nearestEven 9 = .ok (.ldc2_w 45, 3) := by decide +kernel
theorem dX5_nearestEven_12 : decode cX5_nearestEven 12 = .ok (.dcmp .l, 1) := by decide +kernel
theorem dX5_nearestEven_13 : decode cX5_nearestEven 13 = .ok (.ifCond .gt 17, 3) := by decide +kernel
theorem dX5_nearestEven_16 : decode cX5_nearestEven 16 = .ok (.dload_n 3, 1) := by decide +kernel
theorem dX5_nearestEven_17 : decode cX5_nearestEven 17 = .ok (.ldc2_w 45, 3) := by decide +kernel
theorem dX5_nearestEven_20 : decode cX5_nearestEven 20 = .ok (.dcmp .l, 1) := by decide +kernel
theorem dX5_nearestEven_21 : decode cX5_nearestEven 21 = .ok (.ifCond .ne 13, 3) := by decide +kernel
theorem dX5_nearestEven_24 : decode cX5_nearestEven 24 = .ok (.iload_n 2, 1) := by decide +kernel
theorem dX5_nearestEven_25 : decode cX5_nearestEven 25 = .ok (.iconst 2, 1) := by decide +kernel
theorem dX5_nearestEven_26 : decode cX5_nearestEven 26 = .ok (.irem, 1) := by decide +kernel
theorem dX5_nearestEven_27 : decode cX5_nearestEven 27 = .ok (.ifCond .eq 7, 3) := by decide +kernel
theorem dX5_nearestEven_30 : decode cX5_nearestEven 30 = .ok (.iconst 1, 1) := by decide +kernel
theorem dX5_nearestEven_31 : decode cX5_nearestEven 31 = .ok (.goto 4, 3) := by decide +kernel
theorem dX5_nearestEven_34 : decode cX5_nearestEven 34 = .ok (.iconst 0, 1) := by decide +kernel
theorem dX5_nearestEven_35 : decode cX5_nearestEven 35 = .ok (.istore 5, 2) := by decide +kernel
theorem dX5_nearestEven_37 : decode cX5_nearestEven 37 = .ok (.iload 5, 2) := by decide +kernel
theorem dX5_nearestEven_39 : decode cX5_nearestEven 39 = .ok (.ifCond .eq 9, 3) := by decide +kernel
theorem dX5_nearestEven_42 : decode cX5_nearestEven 42 = .ok (.iload_n 2, 1) := by decide +kernel
theorem dX5_nearestEven_43 : decode cX5_nearestEven 43 = .ok (.iconst 1, 1) := by decide +kernel
theorem dX5_nearestEven_44 : decode cX5_nearestEven 44 = .ok (.iadd, 1) := by decide +kernel
theorem dX5_nearestEven_45 : decode cX5_nearestEven 45 = .ok (.goto 4, 3) := by decide +kernel
theorem dX5_nearestEven_48 : decode cX5_nearestEven 48 = .ok (.iload_n 2, 1) := by decide +kernel
theorem dX5_nearestEven_49 : decode cX5_nearestEven 49 = .ok (.ireturn, 1) := by decide +kernel
theorem dX5_held_0 : decode cX5_held 0 = .ok (.dload_n 0, 1) := by decide +kernel
theorem dX5_held_1 : decode cX5_held 1 = .ok (.ldc2_w 47, 3) := by decide +kernel
theorem dX5_held_4 : decode cX5_held 4 = .ok (.dcmp .g, 1) := by decide +kernel
theorem dX5_held_5 : decode cX5_held 5 = .ok (.ifCond .ge 7, 3) := by decide +kernel
theorem dX5_held_8 : decode cX5_held 8 = .ok (.ldc2_w 47, 3) := by decide +kernel
theorem dX5_held_11 : decode cX5_held 11 = .ok (.dreturn, 1) := by decide +kernel
theorem dX5_held_12 : decode cX5_held 12 = .ok (.dload_n 0, 1) := by decide +kernel
theorem dX5_held_13 : decode cX5_held 13 = .ok (.ldc2_w 49, 3) := by decide +kernel
theorem dX5_held_16 : decode cX5_held 16 = .ok (.dcmp .l, 1) := by decide +kernel
theorem dX5_held_17 : decode cX5_held 17 = .ok (.ifCond .le 9, 3) := by decide +kernel
theorem dX5_held_20 : decode cX5_held 20 = .ok (.ldc2_w 49, 3) := by decide +kernel
theorem dX5_held_23 : decode cX5_held 23 = .ok (.goto 4, 3) := by decide +kernel
theorem dX5_held_26 : decode cX5_held 26 = .ok (.dload_n 0, 1) := by decide +kernel
theorem dX5_held_27 : decode cX5_held 27 = .ok (.dreturn, 1) := by decide +kernel
