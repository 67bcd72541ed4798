theorem dX0_cellsOfByte_0 : decode cX0_cellsOfByte 0 = .ok (.iload_n 0, 1) := by decide +kernel
theorem dX0_cellsOfByte_1 : decode cX0_cellsOfByte 1 = .ok (.iconst 2, 1) := by decide +kernel
theorem dX0_cellsOfByte_2 : decode cX0_cellsOfByte 2 = .ok (.if_icmp .ne 8, 3) := by decide +kernel
theorem dX0_cellsOfByte_5 : decode cX0_cellsOfByte 5 = .ok (.bipush 10, 2) := by decide +kernel
theorem dX0_cellsOfByte_7 : decode cX0_cellsOfByte 7 = .ok (.goto 5, 3) := by decide +kernel
theorem dX0_cellsOfByte_10 : decode cX0_cellsOfByte 10 = .ok (.bipush 16, 2) := by decide +kernel
theorem dX0_cellsOfByte_12 : decode cX0_cellsOfByte 12 = .ok (.ireturn, 1) := by decide +kernel
set_option maxRecDepth 20000 in
theorem ggX0_cellsOfSector_X0_cellsOfByte : GoodIn wsX0_cellsOfSector wsX0_cellsOfByte := goodIn_r _ [4] (by decide +kernel) (by decide +kernel)
set_option maxRecDepth 20000 in
theorem gX0_cellsOfSector_X0_cellsOfByte : GoodIn wsX0_cellsOfSector (va_wsS RX0 11 yX0_cellsOfByte wsX0_cellsOfByte) := goodIn_app (goodIn_of _ (by decide +kernel)) ggX0_cellsOfSector_X0_cellsOfByte
theorem dX0_cellsOfSector_0 : decode cX0_cellsOfSector 0 = .ok (.bipush 10, 2) := by decide +kernel
theorem dX0_cellsOfSector_2 : decode cX0_cellsOfSector 2 = .ok (.iload_n 1, 1) := by decide +kernel
theorem dX0_cellsOfSector_3 : decode cX0_cellsOfSector 3 = .ok (.iconst 3, 1) := by decide +kernel
theorem dX0_cellsOfSector_4 : decode cX0_cellsOfSector 4 = .ok (.iadd, 1) := by decide +kernel
theorem dX0_cellsOfSector_5 : decode cX0_cellsOfSector 5 = .ok (.iload_n 0, 1) := by decide +kernel
theorem dX0_cellsOfSector_6 : decode cX0_cellsOfSector 6 = .ok (.invokestatic 11, 3) := by decide +kernel
theorem dX0_cellsOfSector_9 : decode cX0_cellsOfSector 9 = .ok (.imul, 1) := by decide +kernel
theorem dX0_cellsOfSector_10 : decode cX0_cellsOfSector 10 = .ok (.iadd, 1) := by decide +kernel
theorem dX0_cellsOfSector_11 : decode cX0_cellsOfSector 11 = .ok (.iconst 1, 1) := by decide +kernel
theorem dX0_cellsOfSector_12 : decode cX0_cellsOfSector 12 = .ok (.iadd, 1) := by decide +kernel
theorem dX0_cellsOfSector_13 : decode cX0_cellsOfSector 13 = .ok (.ireturn, 1) := by decide +kernel
theorem dX0_groupOf_0 : decode cX0_groupOf 0 = .ok (.iload_n 0, 1) := by decide +kernel
theorem dX0_groupOf_1 : decode cX0_groupOf 1 = .ok (.ifCond .lt 19, 3) := by decide +kernel
theorem dX0_groupOf_4 : decode cX0_groupOf 4 = .ok (.iload_n 0, 1) := by decide +kernel
theorem dX0_groupOf_5 : decode cX0_groupOf 5 = .ok (.getstatic 15, 3) := by decide +kernel
theorem dX0_groupOf_8 : decode cX0_groupOf 8 = .ok (.arraylength, 1) := by decide +kernel
theorem dX0_groupOf_9 : decode cX0_groupOf 9 = .ok (.if_icmp .ge 11, 3) := by decide +kernel
theorem dX0_groupOf_12 : decode cX0_groupOf 12 = .ok (.getstatic 15, 3) := by decide +kernel
theorem dX0_groupOf_15 : decode cX0_groupOf 15 = .ok (.iload_n 0, 1) := by decide +kernel
theorem dX0_groupOf_16 : decode cX0_groupOf 16 = .ok (.iaload, 1) := by decide +kernel
theorem dX0_groupOf_17 : decode cX0_groupOf 17 = .ok (.goto 4, 3) := by decide +kernel
theorem dX0_groupOf_20 : decode cX0_groupOf 20 = .ok (.iconst 0, 1) := by decide +kernel
theorem dX0_groupOf_21 : decode cX0_groupOf 21 = .ok (.ireturn, 1) := by decide +kernel
set_option maxRecDepth 20000 in
theorem ggX0_byteAt_X2_at : GoodIn wsX0_byteAt wsX2_at := goodIn_r _ [5, 6, 7, 13, 14, 15] (by decide +kernel) (by decide +kernel)
set_option maxRecDepth 20000 in
theorem gX0_byteAt_X2_at : GoodIn wsX0_byteAt (wsV RX0 19 RX2 yX2_at wsX2_at) := goodIn_app (goodIn_of _ (by decide +kernel)) ggX0_byteAt_X2_at
set_option maxRecDepth 20000 in
theorem ggX0_byteAt_X0_byteOfGroups : GoodIn wsX0_byteAt wsX0_byteOfGroups := goodIn_r _ [11, 12] (by decide +kernel) (by decide +kernel)
set_option maxRecDepth 20000 in
theorem gX0_byteAt_X0_byteOfGroups : GoodIn wsX0_byteAt (va_wsS RX0 24 yX0_byteOfGroups wsX0_byteOfGroups) := goodIn_app (goodIn_of _ (by decide +kernel)) ggX0_byteAt_X0_byteOfGroups
theorem dX0_byteAt_0 : decode cX0_byteAt 0 = .ok (.iload_n 2, 1) := by decide +kernel
theorem dX0_byteAt_1 : decode cX0_byteAt 1 = .ok (.iconst 2, 1) := by decide +kernel
theorem dX0_byteAt_2 : decode cX0_byteAt 2 = .ok (.if_icmp .ne 7, 3) := by decide +kernel
theorem dX0_byteAt_5 : decode cX0_byteAt 5 = .ok (.iconst 1, 1) := by decide +kernel
theorem dX0_byteAt_6 : decode cX0_byteAt 6 = .ok (.goto 4, 3) := by decide +kernel
theorem dX0_byteAt_9 : decode cX0_byteAt 9 = .ok (.iconst 0, 1) := by decide +kernel
theorem dX0_byteAt_10 : decode cX0_byteAt 10 = .ok (.istore_n 3, 1) := by decide +kernel
theorem dX0_byteAt_11 : decode cX0_byteAt 11 = .ok (.iload_n 3, 1) := by decide +kernel
theorem dX0_byteAt_12 : decode cX0_byteAt 12 = .ok (.ifCond .eq 7, 3) := by decide +kernel
theorem dX0_byteAt_15 : decode cX0_byteAt 15 = .ok (.iload_n 1, 1) := by decide +kernel
theorem dX0_byteAt_16 : decode cX0_byteAt 16 = .ok (.goto 6, 3) := by decide +kernel
theorem dX0_byteAt_19 : decode cX0_byteAt 19 = .ok (.iload_n 1, 1) := by decide +kernel
theorem dX0_byteAt_20 : decode cX0_byteAt 20 = .ok (.iconst 1, 1) := by decide +kernel
theorem dX0_byteAt_21 : decode cX0_byteAt 21 = .ok (.iadd, 1) := by decide +kernel
theorem dX0_byteAt_22 : decode cX0_byteAt 22 = .ok (.istore 4, 2) := by decide +kernel
theorem dX0_byteAt_24 : decode cX0_byteAt 24 = .ok (.iload_n 3, 1) := by decide +kernel
theorem dX0_byteAt_25 : decode cX0_byteAt 25 = .ok (.ifCond .eq 7, 3) := by decide +kernel
theorem dX0_byteAt_28 : decode cX0_byteAt 28 = .ok (.iconst 1, 1) := by decide +kernel
theorem dX0_byteAt_29 : decode cX0_byteAt 29 = .ok (.goto 4, 3) := by decide +kernel
theorem dX0_byteAt_32 : decode cX0_byteAt 32 = .ok (.iconst 2, 1) := by decide +kernel
theorem dX0_byteAt_33 : decode cX0_byteAt 33 = .ok (.istore 5, 2) := by decide +kernel
theorem dX0_byteAt_35 : decode cX0_byteAt 35 = .ok (.iload_n 3, 1) := by decide +kernel
theorem dX0_byteAt_36 : decode cX0_byteAt 36 = .ok (.ifCond .eq 8, 3) := by decide +kernel
theorem dX0_byteAt_39 : decode cX0_byteAt 39 = .ok (.bipush 10, 2) := by decide +kernel
theorem dX0_byteAt_41 : decode cX0_byteAt 41 = .ok (.goto 5, 3) := by decide +kernel
theorem dX0_byteAt_44 : decode cX0_byteAt 44 = .ok (.bipush 8, 2) := by decide +kernel
theorem dX0_byteAt_46 : decode cX0_byteAt 46 = .ok (.istore 6, 2) := by decide +kernel
theorem dX0_byteAt_48 : decode cX0_byteAt 48 = .ok (.iconst 0, 1) := by decide +kernel
theorem dX0_byteAt_49 : decode cX0_byteAt 49 = .ok (.istore 7, 2) := by decide +kernel
theorem dX0_byteAt_51 : decode cX0_byteAt 51 = .ok (.iconst 0, 1) := by decide +kernel
theorem dX0_byteAt_52 : decode cX0_byteAt 52 = .ok (.istore 8, 2) := by decide +kernel
theorem dX0_byteAt_54 : decode cX0_byteAt 54 = .ok (.iload 8, 2) := by decide +kernel
theorem dX0_byteAt_56 : decode cX0_byteAt 56 = .ok (.iload 6, 2) := by decide +kernel
theorem dX0_byteAt_58 : decode cX0_byteAt 58 = .ok (.if_icmp .ge 28, 3) := by decide +kernel
theorem dX0_byteAt_61 : decode cX0_byteAt 61 = .ok (.iconst 2, 1) := by decide +kernel
theorem dX0_byteAt_62 : decode cX0_byteAt 62 = .ok (.iload 7, 2) := by decide +kernel
theorem dX0_byteAt_64 : decode cX0_byteAt 64 = .ok (.imul, 1) := by decide +kernel
theorem dX0_byteAt_65 : decode cX0_byteAt 65 = .ok (.aload_n 0, 1) := by decide +kernel
theorem dX0_byteAt_66 : decode cX0_byteAt 66 = .ok (.iload 4, 2) := by decide +kernel
theorem dX0_byteAt_68 : decode cX0_byteAt 68 = .ok (.iload 8, 2) := by decide +kernel
theorem dX0_byteAt_70 : decode cX0_byteAt 70 = .ok (.iload 5, 2) := by decide +kernel
theorem dX0_byteAt_72 : decode cX0_byteAt 72 = .ok (.imul, 1) := by decide +kernel
theorem dX0_byteAt_73 : decode cX0_byteAt 73 = .ok (.iadd, 1) := by decide +kernel
theorem dX0_byteAt_74 : decode cX0_byteAt 74 = .ok (.invokevirtual 19, 3) := by decide +kernel
theorem dX0_byteAt_77 : decode cX0_byteAt 77 = .ok (.iadd, 1) := by decide +kernel
theorem dX0_byteAt_78 : decode cX0_byteAt 78 = .ok (.istore 7, 2) := by decide +kernel
theorem dX0_byteAt_80 : decode cX0_byteAt 80 = .ok (.iinc 8 1, 3) := by decide +kernel
theorem dX0_byteAt_83 : decode cX0_byteAt 83 = .ok (.goto (-29), 3) := by decide +kernel
theorem dX0_byteAt_86 : decode cX0_byteAt 86 = .ok (.iload_n 3, 1) := by decide +kernel
theorem dX0_byteAt_87 : decode cX0_byteAt 87 = .ok (.ifCond .eq 11, 3) := by decide +kernel
theorem dX0_byteAt_90 : decode cX0_byteAt 90 = .ok (.iload 7, 2) := by decide +kernel
theorem dX0_byteAt_92 : decode cX0_byteAt 92 = .ok (.invokestatic 24, 3) := by decide +kernel
theorem dX0_byteAt_95 : decode cX0_byteAt 95 = .ok (.goto 5, 3) := by decide +kernel
theorem dX0_byteAt_98 : decode cX0_byteAt 98 = .ok (.iload 7, 2) := by decide +kernel
theorem dX0_byteAt_100 : decode cX0_byteAt 100 = .ok (.ireturn, 1) := by decide +kernel
theorem dX0_byteOfGroups_0 : decode cX0_byteOfGroups 0 = .ok (.iconst (-1), 1) := by decide +kernel
theorem dX0_byteOfGroups_1 : decode cX0_byteOfGroups 1 = .ok (.istore_n 1, 1) := by decide +kernel
theorem dX0_byteOfGroups_2 : decode cX0_byteOfGroups 2 = .ok (.iconst (-1), 1) := by decide +kernel
theorem dX0_byteOfGroups_3 : decode cX0_byteOfGroups 3 = .ok (.istore_n 2, 1) := by decide +kernel
theorem dX0_byteOfGroups_4 : decode cX0_byteOfGroups 4 = .ok (.iconst 0, 1) := by decide +kernel
theorem dX0_byteOfGroups_5 : decode cX0_byteOfGroups 5 = .ok (.istore_n 3, 1) := by decide +kernel
theorem dX0_byteOfGroups_6 : decode cX0_byteOfGroups 6 = .ok (.iload_n 3, 1) := by decide +kernel
theorem dX0_byteOfGroups_7 : decode cX0_byteOfGroups 7 = .ok (.getstatic 15, 3) := by decide +kernel
theorem dX0_byteOfGroups_10 : decode cX0_byteOfGroups 10 = .ok (.arraylength, 1) := by decide +kernel
theorem dX0_byteOfGroups_11 : decode cX0_byteOfGroups 11 = .ok (.if_icmp .ge 44, 3) := by decide +kernel
theorem dX0_byteOfGroups_14 : decode cX0_byteOfGroups 14 = .ok (.getstatic 15, 3) := by decide +kernel
theorem dX0_byteOfGroups_17 : decode cX0_byteOfGroups 17 = .ok (.iload_n 3, 1) := by decide +kernel
theorem dX0_byteOfGroups_18 : decode cX0_byteOfGroups 18 = .ok (.iaload, 1) := by decide +kernel
theorem dX0_byteOfGroups_19 : decode cX0_byteOfGroups 19 = .ok (.iload_n 0, 1) := by decide +kernel
theorem dX0_byteOfGroups_20 : decode cX0_byteOfGroups 20 = .ok (.iconst 5, 1) := by decide +kernel
theorem dX0_byteOfGroups_21 : decode cX0_byteOfGroups 21 = .ok (.ishr, 1) := by decide +kernel
theorem dX0_byteOfGroups_22 : decode cX0_byteOfGroups 22 = .ok (.if_icmp .ne 7, 3) := by decide +kernel
theorem dX0_byteOfGroups_25 : decode cX0_byteOfGroups 25 = .ok (.iload_n 3, 1) := by decide +kernel
theorem dX0_byteOfGroups_26 : decode cX0_byteOfGroups 26 = .ok (.goto 4, 3) := by decide +kernel
theorem dX0_byteOfGroups_29 : decode cX0_byteOfGroups 29 = .ok (.iload_n 1, 1) := by decide +kernel
theorem dX0_byteOfGroups_30 : decode cX0_byteOfGroups 30 = .ok (.istore_n 1, 1) := by decide +kernel
theorem dX0_byteOfGroups_31 : decode cX0_byteOfGroups 31 = .ok (.getstatic 15, 3) := by decide +kernel
theorem dX0_byteOfGroups_34 : decode cX0_byteOfGroups 34 = .ok (.iload_n 3, 1) := by decide +kernel
theorem dX0_byteOfGroups_35 : decode cX0_byteOfGroups 35 = .ok (.iaload, 1) := by decide +kernel
theorem dX0_byteOfGroups_36 : decode cX0_byteOfGroups 36 = .ok (.iload_n 0, 1) := by decide +kernel
theorem dX0_byteOfGroups_37 : decode cX0_byteOfGroups 37 = .ok (.bipush 32, 2) := by decide +kernel
theorem dX0_byteOfGroups_39 : decode cX0_byteOfGroups 39 = .ok (.irem, 1) := by decide +kernel
theorem dX0_byteOfGroups_40 : decode cX0_byteOfGroups 40 = .ok (.if_icmp .ne 7, 3) := by decide +kernel
theorem dX0_byteOfGroups_43 : decode cX0_byteOfGroups 43 = .ok (.iload_n 3, 1) := by decide +kernel
theorem dX0_byteOfGroups_44 : decode cX0_byteOfGroups 44 = .ok (.goto 4, 3) := by decide +kernel
theorem dX0_byteOfGroups_47 : decode cX0_byteOfGroups 47 = .ok (.iload_n 2, 1) := by decide +kernel
theorem dX0_byteOfGroups_48 : decode cX0_byteOfGroups 48 = .ok (.istore_n 2, 1) := by decide +kernel
theorem dX0_byteOfGroups_49 : decode cX0_byteOfGroups 49 = .ok (.iinc 3 1, 3) := by decide +kernel
theorem dX0_byteOfGroups_52 : decode cX0_byteOfGroups 52 = .ok (.goto (-46), 3) := by decide +kernel
theorem dX0_byteOfGroups_55 : decode cX0_byteOfGroups 55 = .ok (.iload_n 1, 1) := by decide +kernel
theorem dX0_byteOfGroups_56 : decode cX0_byteOfGroups 56 = .ok (.iconst (-1), 1) := by decide +kernel
theorem dX0_byteOfGroups_57 : decode cX0_byteOfGroups 57 = .ok (.if_icmp .eq 8, 3) := by decide +kernel
theorem dX0_byteOfGroups_60 : decode cX0_byteOfGroups 60 = .ok (.iload_n 2, 1) := by decide +kernel
theorem dX0_byteOfGroups_61 : decode cX0_byteOfGroups 61 = .ok (.iconst (-1), 1) := by decide +kernel
theorem dX0_byteOfGroups_62 : decode cX0_byteOfGroups 62 = .ok (.if_icmp .ne 7, 3) := by decide +kernel
theorem dX0_byteOfGroups_65 : decode cX0_byteOfGroups 65 = .ok (.iconst (-1), 1) := by decide +kernel
theorem dX0_byteOfGroups_66 : decode cX0_byteOfGroups 66 = .ok (.goto 9, 3) := by decide +kernel
theorem dX0_byteOfGroups_69 : decode cX0_byteOfGroups 69 = .ok (.iload_n 1, 1) := by decide +kernel
theorem dX0_byteOfGroups_70 : decode cX0_byteOfGroups 70 = .ok (.bipush 16, 2) := by decide +kernel
theorem dX0_byteOfGroups_72 : decode cX0_byteOfGroups 72 = .ok (.imul, 1) := by decide +kernel
theorem dX0_byteOfGroups_73 : decode cX0_byteOfGroups 73 = .ok (.iload_n 2, 1) := by decide +kernel
theorem dX0_byteOfGroups_74 : decode cX0_byteOfGroups 74 = .ok (.iadd, 1) := by decide +kernel
theorem dX0_byteOfGroups_75 : decode cX0_byteOfGroups 75 = .ok (.ireturn, 1) := by decide +kernel
