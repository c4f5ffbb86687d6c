theorem dX0_init_0 : decode cX0_init 0 = .ok (.aload_n 0, 1) := by decide +kernel
theorem dX0_init_1 : decode cX0_init 1 = .ok (.invokespecial 1, 3) := by decide +kernel
theorem dX0_init_4 : decode cX0_init 4 = .ok (.aload_n 0, 1) := by decide +kernel
theorem dX0_init_5 : decode cX0_init 5 = .ok (.bipush 22, 2) := by decide +kernel
theorem dX0_init_7 : decode cX0_init 7 = .ok (.newarray .int, 2) := by decide +kernel
theorem dX0_init_9 : decode cX0_init 9 = .ok (.putfield 9, 3) := by decide +kernel
theorem dX0_init_12 : decode cX0_init 12 = .ok (.return_, 1) := by decide +kernel
theorem dX0_carryAll_0 : decode cX0_carryAll 0 = .ok (.iconst 0, 1) := by decide +kernel
theorem dX0_carryAll_1 : decode cX0_carryAll 1 = .ok (.istore_n 3, 1) := by decide +kernel
theorem dX0_carryAll_2 : decode cX0_carryAll 2 = .ok (.iload_n 3, 1) := by decide +kernel
theorem dX0_carryAll_3 : decode cX0_carryAll 3 = .ok (.aload_n 0, 1) := by decide +kernel
theorem dX0_carryAll_4 : decode cX0_carryAll 4 = .ok (.getfield 9, 3) := by decide +kernel
theorem dX0_carryAll_7 : decode cX0_carryAll 7 = .ok (.arraylength, 1) := by decide +kernel
theorem dX0_carryAll_8 : decode cX0_carryAll 8 = .ok (.if_icmp .ge 26, 3) := by decide +kernel
theorem dX0_carryAll_11 : decode cX0_carryAll 11 = .ok (.aload_n 0, 1) := by decide +kernel
theorem dX0_carryAll_12 : decode cX0_carryAll 12 = .ok (.getfield 9, 3) := by decide +kernel
theorem dX0_carryAll_15 : decode cX0_carryAll 15 = .ok (.iload_n 3, 1) := by decide +kernel
theorem dX0_carryAll_16 : decode cX0_carryAll 16 = .ok (.iload_n 1, 1) := by decide +kernel
theorem dX0_carryAll_17 : decode cX0_carryAll 17 = .ok (.iload_n 3, 1) := by decide +kernel
theorem dX0_carryAll_18 : decode cX0_carryAll 18 = .ok (.ishr, 1) := by decide +kernel
theorem dX0_carryAll_19 : decode cX0_carryAll 19 = .ok (.iconst 1, 1) := by decide +kernel
theorem dX0_carryAll_20 : decode cX0_carryAll 20 = .ok (.iand, 1) := by decide +kernel
theorem dX0_carryAll_21 : decode cX0_carryAll 21 = .ok (.iload_n 2, 1) := by decide +kernel
theorem dX0_carryAll_22 : decode cX0_carryAll 22 = .ok (.iload_n 3, 1) := by decide +kernel
theorem dX0_carryAll_23 : decode cX0_carryAll 23 = .ok (.ishr, 1) := by decide +kernel
theorem dX0_carryAll_24 : decode cX0_carryAll 24 = .ok (.iconst 1, 1) := by decide +kernel
theorem dX0_carryAll_25 : decode cX0_carryAll 25 = .ok (.iand, 1) := by decide +kernel
theorem dX0_carryAll_26 : decode cX0_carryAll 26 = .ok (.iadd, 1) := by decide +kernel
theorem dX0_carryAll_27 : decode cX0_carryAll 27 = .ok (.iastore, 1) := by decide +kernel
theorem dX0_carryAll_28 : decode cX0_carryAll 28 = .ok (.iinc 3 1, 3) := by decide +kernel
theorem dX0_carryAll_31 : decode cX0_carryAll 31 = .ok (.goto (-29), 3) := by decide +kernel
theorem dX0_carryAll_34 : decode cX0_carryAll 34 = .ok (.iconst 0, 1) := by decide +kernel
theorem dX0_carryAll_35 : decode cX0_carryAll 35 = .ok (.istore_n 3, 1) := by decide +kernel
theorem dX0_carryAll_36 : decode cX0_carryAll 36 = .ok (.iload_n 3, 1) := by decide +kernel
theorem dX0_carryAll_37 : decode cX0_carryAll 37 = .ok (.sipush 10000, 3) := by decide +kernel
theorem dX0_carryAll_40 : decode cX0_carryAll 40 = .ok (.if_icmp .ge 28, 3) := by decide +kernel
theorem dX0_carryAll_43 : decode cX0_carryAll 43 = .ok (.aload_n 0, 1) := by decide +kernel
theorem dX0_carryAll_44 : decode cX0_carryAll 44 = .ok (.invokevirtual 13, 3) := by decide +kernel
theorem dX0_carryAll_47 : decode cX0_carryAll 47 = .ok (.istore 4, 2) := by decide +kernel
theorem dX0_carryAll_49 : decode cX0_carryAll 49 = .ok (.iload 4, 2) := by decide +kernel
theorem dX0_carryAll_51 : decode cX0_carryAll 51 = .ok (.ifCond .ge 5, 3) := by decide +kernel
theorem dX0_carryAll_54 : decode cX0_carryAll 54 = .ok (.iload_n 3, 1) := by decide +kernel
theorem dX0_carryAll_55 : decode cX0_carryAll 55 = .ok (.ireturn, 1) := by decide +kernel
theorem dX0_carryAll_56 : decode cX0_carryAll 56 = .ok (.aload_n 0, 1) := by decide +kernel
theorem dX0_carryAll_57 : decode cX0_carryAll 57 = .ok (.iload 4, 2) := by decide +kernel
theorem dX0_carryAll_59 : decode cX0_carryAll 59 = .ok (.invokevirtual 17, 3) := by decide +kernel
theorem dX0_carryAll_62 : decode cX0_carryAll 62 = .ok (.iinc 3 1, 3) := by decide +kernel
theorem dX0_carryAll_65 : decode cX0_carryAll 65 = .ok (.goto (-29), 3) := by decide +kernel
theorem dX0_carryAll_68 : decode cX0_carryAll 68 = .ok (.sipush 10000, 3) := by decide +kernel
theorem dX0_carryAll_71 : decode cX0_carryAll 71 = .ok (.ireturn, 1) := by decide +kernel
theorem dX0_countOf_0 : decode cX0_countOf 0 = .ok (.iload_n 1, 1) := by decide +kernel
theorem dX0_countOf_1 : decode cX0_countOf 1 = .ok (.ifCond .lt 21, 3) := by decide +kernel
theorem dX0_countOf_4 : decode cX0_countOf 4 = .ok (.iload_n 1, 1) := by decide +kernel
theorem dX0_countOf_5 : decode cX0_countOf 5 = .ok (.aload_n 0, 1) := by decide +kernel
theorem dX0_countOf_6 : decode cX0_countOf 6 = .ok (.getfield 9, 3) := by decide +kernel
theorem dX0_countOf_9 : decode cX0_countOf 9 = .ok (.arraylength, 1) := by decide +kernel
theorem dX0_countOf_10 : decode cX0_countOf 10 = .ok (.if_icmp .ge 12, 3) := by decide +kernel
theorem dX0_countOf_13 : decode cX0_countOf 13 = .ok (.aload_n 0, 1) := by decide +kernel
theorem dX0_countOf_14 : decode cX0_countOf 14 = .ok (.getfield 9, 3) := by decide +kernel
theorem dX0_countOf_17 : decode cX0_countOf 17 = .ok (.iload_n 1, 1) := by decide +kernel
theorem dX0_countOf_18 : decode cX0_countOf 18 = .ok (.iaload, 1) := by decide +kernel
theorem dX0_countOf_19 : decode cX0_countOf 19 = .ok (.goto 4, 3) := by decide +kernel
theorem dX0_countOf_22 : decode cX0_countOf 22 = .ok (.iconst 0, 1) := by decide +kernel
theorem dX0_countOf_23 : decode cX0_countOf 23 = .ok (.ireturn, 1) := by decide +kernel
theorem dX0_change_0 : decode cX0_change 0 = .ok (.iload_n 1, 1) := by decide +kernel
theorem dX0_change_1 : decode cX0_change 1 = .ok (.ifCond .lt 22, 3) := by decide +kernel
theorem dX0_change_4 : decode cX0_change 4 = .ok (.iload_n 1, 1) := by decide +kernel
theorem dX0_change_5 : decode cX0_change 5 = .ok (.aload_n 0, 1) := by decide +kernel
theorem dX0_change_6 : decode cX0_change 6 = .ok (.getfield 9, 3) := by decide +kernel
theorem dX0_change_9 : decode cX0_change 9 = .ok (.arraylength, 1) := by decide +kernel
theorem dX0_change_10 : decode cX0_change 10 = .ok (.if_icmp .ge 13, 3) := by decide +kernel
theorem dX0_change_13 : decode cX0_change 13 = .ok (.aload_n 0, 1) := by decide +kernel
theorem dX0_change_14 : decode cX0_change 14 = .ok (.getfield 9, 3) := by decide +kernel
theorem dX0_change_17 : decode cX0_change 17 = .ok (.iload_n 1, 1) := by decide +kernel
theorem dX0_change_18 : decode cX0_change 18 = .ok (.dup2, 1) := by decide +kernel
theorem dX0_change_19 : decode cX0_change 19 = .ok (.iaload, 1) := by decide +kernel
theorem dX0_change_20 : decode cX0_change 20 = .ok (.iload_n 2, 1) := by decide +kernel
theorem dX0_change_21 : decode cX0_change 21 = .ok (.iadd, 1) := by decide +kernel
theorem dX0_change_22 : decode cX0_change 22 = .ok (.iastore, 1) := by decide +kernel
theorem dX0_change_23 : decode cX0_change 23 = .ok (.return_, 1) := by decide +kernel
theorem dX0_countsWithNext_0 : decode cX0_countsWithNext 0 = .ok (.aload_n 0, 1) := by decide +kernel
theorem dX0_countsWithNext_1 : decode cX0_countsWithNext 1 = .ok (.iload_n 1, 1) := by decide +kernel
theorem dX0_countsWithNext_2 : decode cX0_countsWithNext 2 = .ok (.invokevirtual 21, 3) := by decide +kernel
theorem dX0_countsWithNext_5 : decode cX0_countsWithNext 5 = .ok (.iconst 1, 1) := by decide +kernel
theorem dX0_countsWithNext_6 : decode cX0_countsWithNext 6 = .ok (.if_icmp .lt 18, 3) := by decide +kernel
theorem dX0_countsWithNext_9 : decode cX0_countsWithNext 9 = .ok (.aload_n 0, 1) := by decide +kernel
theorem dX0_countsWithNext_10 : decode cX0_countsWithNext 10 = .ok (.iload_n 1, 1) := by decide +kernel
theorem dX0_countsWithNext_11 : decode cX0_countsWithNext 11 = .ok (.iconst 1, 1) := by decide +kernel
theorem dX0_countsWithNext_12 : decode cX0_countsWithNext 12 = .ok (.iadd, 1) := by decide +kernel
theorem dX0_countsWithNext_13 : decode cX0_countsWithNext 13 = .ok (.invokevirtual 21, 3) := by decide +kernel
theorem dX0_countsWithNext_16 : decode cX0_countsWithNext 16 = .ok (.iconst 1, 1) := by decide +kernel
theorem dX0_countsWithNext_17 : decode cX0_countsWithNext 17 = .ok (.if_icmp .lt 7, 3) := by decide +kernel
theorem dX0_countsWithNext_20 : decode cX0_countsWithNext 20 = .ok (.iconst 1, 1) := by decide +kernel
theorem dX0_countsWithNext_21 : decode cX0_countsWithNext 21 = .ok (.goto 4, 3) := by decide +kernel
theorem dX0_countsWithNext_24 : decode cX0_countsWithNext 24 = .ok (.iconst 0, 1) := by decide +kernel
theorem dX0_countsWithNext_25 : decode cX0_countsWithNext 25 = .ok (.ireturn, 1) := by decide +kernel
theorem dX0_firstToCarry_0 : decode cX0_firstToCarry 0 = .ok (.bipush 19, 2) := by decide +kernel
theorem dX0_firstToCarry_2 : decode cX0_firstToCarry 2 = .ok (.istore_n 1, 1) := by decide +kernel
theorem dX0_firstToCarry_3 : decode cX0_firstToCarry 3 = .ok (.iload_n 1, 1) := by decide +kernel
theorem dX0_firstToCarry_4 : decode cX0_firstToCarry 4 = .ok (.ifCond .lt 28, 3) := by decide +kernel
theorem dX0_firstToCarry_7 : decode cX0_firstToCarry 7 = .ok (.aload_n 0, 1) := by decide +kernel
theorem dX0_firstToCarry_8 : decode cX0_firstToCarry 8 = .ok (.iload_n 1, 1) := by decide +kernel
theorem dX0_firstToCarry_9 : decode cX0_firstToCarry 9 = .ok (.invokevirtual 25, 3) := by decide +kernel
theorem dX0_firstToCarry_12 : decode cX0_firstToCarry 12 = .ok (.ifCond .ne 12, 3) := by decide +kernel
theorem dX0_firstToCarry_15 : decode cX0_firstToCarry 15 = .ok (.aload_n 0, 1) := by decide +kernel
theorem dX0_firstToCarry_16 : decode cX0_firstToCarry 16 = .ok (.iload_n 1, 1) := by decide +kernel
theorem dX0_firstToCarry_17 : decode cX0_firstToCarry 17 = .ok (.invokevirtual 21, 3) := by decide +kernel
theorem dX0_firstToCarry_20 : decode cX0_firstToCarry 20 = .ok (.iconst 2, 1) := by decide +kernel
theorem dX0_firstToCarry_21 : decode cX0_firstToCarry 21 = .ok (.if_icmp .lt 5, 3) := by decide +kernel
theorem dX0_firstToCarry_24 : decode cX0_firstToCarry 24 = .ok (.iload_n 1, 1) := by decide +kernel
theorem dX0_firstToCarry_25 : decode cX0_firstToCarry 25 = .ok (.ireturn, 1) := by decide +kernel
theorem dX0_firstToCarry_26 : decode cX0_firstToCarry 26 = .ok (.iinc 1 (-1), 3) := by decide +kernel
theorem dX0_firstToCarry_29 : decode cX0_firstToCarry 29 = .ok (.goto (-26), 3) := by decide +kernel
theorem dX0_firstToCarry_32 : decode cX0_firstToCarry 32 = .ok (.iconst (-1), 1) := by decide +kernel
theorem dX0_firstToCarry_33 : decode cX0_firstToCarry 33 = .ok (.ireturn, 1) := by decide +kernel
theorem dX0_carryAt_0 : decode cX0_carryAt 0 = .ok (.aload_n 0, 1) := by decide +kernel
theorem dX0_carryAt_1 : decode cX0_carryAt 1 = .ok (.iload_n 1, 1) := by decide +kernel
theorem dX0_carryAt_2 : decode cX0_carryAt 2 = .ok (.invokevirtual 25, 3) := by decide +kernel
theorem dX0_carryAt_5 : decode cX0_carryAt 5 = .ok (.ifCond .eq 26, 3) := by decide +kernel
theorem dX0_carryAt_8 : decode cX0_carryAt 8 = .ok (.aload_n 0, 1) := by decide +kernel
theorem dX0_carryAt_9 : decode cX0_carryAt 9 = .ok (.iload_n 1, 1) := by decide +kernel
theorem dX0_carryAt_10 : decode cX0_carryAt 10 = .ok (.iconst (-1), 1) := by decide +kernel
theorem dX0_carryAt_11 : decode cX0_carryAt 11 = .ok (.invokevirtual 29, 3) := by decide +kernel
theorem dX0_carryAt_14 : decode cX0_carryAt 14 = .ok (.aload_n 0, 1) := by decide +kernel
theorem dX0_carryAt_15 : decode cX0_carryAt 15 = .ok (.iload_n 1, 1) := by decide +kernel
theorem dX0_carryAt_16 : decode cX0_carryAt 16 = .ok (.iconst 1, 1) := by decide +kernel
theorem dX0_carryAt_17 : decode cX0_carryAt 17 = .ok (.iadd, 1) := by decide +kernel
theorem dX0_carryAt_18 : decode cX0_carryAt 18 = .ok (.iconst (-1), 1) := by decide +kernel
theorem dX0_carryAt_19 : decode cX0_carryAt 19 = .ok (.invokevirtual 29, 3) := by decide +kernel
theorem dX0_carryAt_22 : decode cX0_carryAt 22 = .ok (.aload_n 0, 1) := by decide +kernel
theorem dX0_carryAt_23 : decode cX0_carryAt 23 = .ok (.iload_n 1, 1) := by decide +kernel
theorem dX0_carryAt_24 : decode cX0_carryAt 24 = .ok (.iconst 2, 1) := by decide +kernel
theorem dX0_carryAt_25 : decode cX0_carryAt 25 = .ok (.iadd, 1) := by decide +kernel
theorem dX0_carryAt_26 : decode cX0_carryAt 26 = .ok (.iconst 1, 1) := by decide +kernel
theorem dX0_carryAt_27 : decode cX0_carryAt 27 = .ok (.invokevirtual 29, 3) := by decide +kernel
theorem dX0_carryAt_30 : decode cX0_carryAt 30 = .ok (.return_, 1) := by decide +kernel
theorem dX0_carryAt_31 : decode cX0_carryAt 31 = .ok (.aload_n 0, 1) := by decide +kernel
theorem dX0_carryAt_32 : decode cX0_carryAt 32 = .ok (.iload_n 1, 1) := by decide +kernel
theorem dX0_carryAt_33 : decode cX0_carryAt 33 = .ok (.bipush (-2), 2) := by decide +kernel
theorem dX0_carryAt_35 : decode cX0_carryAt 35 = .ok (.invokevirtual 29, 3) := by decide +kernel
theorem dX0_carryAt_38 : decode cX0_carryAt 38 = .ok (.aload_n 0, 1) := by decide +kernel
theorem dX0_carryAt_39 : decode cX0_carryAt 39 = .ok (.iload_n 1, 1) := by decide +kernel
theorem dX0_carryAt_40 : decode cX0_carryAt 40 = .ok (.iconst 1, 1) := by decide +kernel
theorem dX0_carryAt_41 : decode cX0_carryAt 41 = .ok (.iadd, 1) := by decide +kernel
theorem dX0_carryAt_42 : decode cX0_carryAt 42 = .ok (.iconst 1, 1) := by decide +kernel
theorem dX0_carryAt_43 : decode cX0_carryAt 43 = .ok (.invokevirtual 29, 3) := by decide +kernel
theorem dX0_carryAt_46 : decode cX0_carryAt 46 = .ok (.iload_n 1, 1) := by decide +kernel
theorem dX0_carryAt_47 : decode cX0_carryAt 47 = .ok (.iconst 1, 1) := by decide +kernel
theorem dX0_carryAt_48 : decode cX0_carryAt 48 = .ok (.if_icmp .ne 12, 3) := by decide +kernel
theorem dX0_carryAt_51 : decode cX0_carryAt 51 = .ok (.aload_n 0, 1) := by decide +kernel
theorem dX0_carryAt_52 : decode cX0_carryAt 52 = .ok (.iconst 0, 1) := by decide +kernel
theorem dX0_carryAt_53 : decode cX0_carryAt 53 = .ok (.iconst 1, 1) := by decide +kernel
theorem dX0_carryAt_54 : decode cX0_carryAt 54 = .ok (.invokevirtual 29, 3) := by decide +kernel
theorem dX0_carryAt_57 : decode cX0_carryAt 57 = .ok (.goto 16, 3) := by decide +kernel
theorem dX0_carryAt_60 : decode cX0_carryAt 60 = .ok (.iload_n 1, 1) := by decide +kernel
theorem dX0_carryAt_61 : decode cX0_carryAt 61 = .ok (.iconst 1, 1) := by decide +kernel
theorem dX0_carryAt_62 : decode cX0_carryAt 62 = .ok (.if_icmp .le 11, 3) := by decide +kernel
theorem dX0_carryAt_65 : decode cX0_carryAt 65 = .ok (.aload_n 0, 1) := by decide +kernel
theorem dX0_carryAt_66 : decode cX0_carryAt 66 = .ok (.iload_n 1, 1) := by decide +kernel
theorem dX0_carryAt_67 : decode cX0_carryAt 67 = .ok (.iconst 2, 1) := by decide +kernel
theorem dX0_carryAt_68 : decode cX0_carryAt 68 = .ok (.isub, 1) := by decide +kernel
theorem dX0_carryAt_69 : decode cX0_carryAt 69 = .ok (.iconst 1, 1) := by decide +kernel
theorem dX0_carryAt_70 : decode cX0_carryAt 70 = .ok (.invokevirtual 29, 3) := by decide +kernel
theorem dX0_carryAt_73 : decode cX0_carryAt 73 = .ok (.return_, 1) := by decide +kernel
theorem dX0_toMark_0 : decode cX0_toMark 0 = .ok (.iconst 0, 1) := by decide +kernel
theorem dX0_toMark_1 : decode cX0_toMark 1 = .ok (.istore_n 1, 1) := by decide +kernel
theorem dX0_toMark_2 : decode cX0_toMark 2 = .ok (.iconst 0, 1) := by decide +kernel
theorem dX0_toMark_3 : decode cX0_toMark 3 = .ok (.istore_n 2, 1) := by decide +kernel
theorem dX0_toMark_4 : decode cX0_toMark 4 = .ok (.iload_n 2, 1) := by decide +kernel
theorem dX0_toMark_5 : decode cX0_toMark 5 = .ok (.aload_n 0, 1) := by decide +kernel
theorem dX0_toMark_6 : decode cX0_toMark 6 = .ok (.getfield 9, 3) := by decide +kernel
theorem dX0_toMark_9 : decode cX0_toMark 9 = .ok (.arraylength, 1) := by decide +kernel
theorem dX0_toMark_10 : decode cX0_toMark 10 = .ok (.if_icmp .ge 24, 3) := by decide +kernel
theorem dX0_toMark_13 : decode cX0_toMark 13 = .ok (.aload_n 0, 1) := by decide +kernel
theorem dX0_toMark_14 : decode cX0_toMark 14 = .ok (.getfield 9, 3) := by decide +kernel
theorem dX0_toMark_17 : decode cX0_toMark 17 = .ok (.iload_n 2, 1) := by decide +kernel
theorem dX0_toMark_18 : decode cX0_toMark 18 = .ok (.iaload, 1) := by decide +kernel
theorem dX0_toMark_19 : decode cX0_toMark 19 = .ok (.ifCond .le 9, 3) := by decide +kernel
theorem dX0_toMark_22 : decode cX0_toMark 22 = .ok (.iload_n 1, 1) := by decide +kernel
theorem dX0_toMark_23 : decode cX0_toMark 23 = .ok (.iconst 1, 1) := by decide +kernel
theorem dX0_toMark_24 : decode cX0_toMark 24 = .ok (.iload_n 2, 1) := by decide +kernel
theorem dX0_toMark_25 : decode cX0_toMark 25 = .ok (.ishl, 1) := by decide +kernel
theorem dX0_toMark_26 : decode cX0_toMark 26 = .ok (.ior, 1) := by decide +kernel
theorem dX0_toMark_27 : decode cX0_toMark 27 = .ok (.istore_n 1, 1) := by decide +kernel
theorem dX0_toMark_28 : decode cX0_toMark 28 = .ok (.iinc 2 1, 3) := by decide +kernel
theorem dX0_toMark_31 : decode cX0_toMark 31 = .ok (.goto (-27), 3) := by decide +kernel
theorem dX0_toMark_34 : decode cX0_toMark 34 = .ok (.iload_n 1, 1) := by decide +kernel
theorem dX0_toMark_35 : decode cX0_toMark 35 = .ok (.ireturn, 1) := by decide +kernel
theorem dX1_init_0 : decode cX1_init 0 = .ok (.aload_n 0, 1) := by decide +kernel
theorem dX1_init_1 : decode cX1_init 1 = .ok (.invokespecial 3, 3) := by decide +kernel
theorem dX1_init_4 : decode cX1_init 4 = .ok (.aload_n 0, 1) := by decide +kernel
theorem dX1_init_5 : decode cX1_init 5 = .ok (.bipush 32, 2) := by decide +kernel
theorem dX1_init_7 : decode cX1_init 7 = .ok (.newarray .int, 2) := by decide +kernel
theorem dX1_init_9 : decode cX1_init 9 = .ok (.putfield 9, 3) := by decide +kernel
theorem dX1_init_12 : decode cX1_init 12 = .ok (.return_, 1) := by decide +kernel
theorem dX1_readAll_0 : decode cX1_readAll 0 = .ok (.aload_n 0, 1) := by decide +kernel
theorem dX1_readAll_1 : decode cX1_readAll 1 = .ok (.iconst 0, 1) := by decide +kernel
theorem dX1_readAll_2 : decode cX1_readAll 2 = .ok (.putfield 15, 3) := by decide +kernel
theorem dX1_readAll_5 : decode cX1_readAll 5 = .ok (.aload_n 0, 1) := by decide +kernel
theorem dX1_readAll_6 : decode cX1_readAll 6 = .ok (.iconst 0, 1) := by decide +kernel
theorem dX1_readAll_7 : decode cX1_readAll 7 = .ok (.putfield 19, 3) := by decide +kernel
theorem dX1_readAll_10 : decode cX1_readAll 10 = .ok (.iconst 0, 1) := by decide +kernel
theorem dX1_readAll_11 : decode cX1_readAll 11 = .ok (.istore 4, 2) := by decide +kernel
theorem dX1_readAll_13 : decode cX1_readAll 13 = .ok (.iconst 1, 1) := by decide +kernel
theorem dX1_readAll_14 : decode cX1_readAll 14 = .ok (.istore 5, 2) := by decide +kernel
theorem dX1_readAll_16 : decode cX1_readAll 16 = .ok (.iload 5, 2) := by decide +kernel
theorem dX1_readAll_18 : decode cX1_readAll 18 = .ok (.iload_n 3, 1) := by decide +kernel
theorem dX1_readAll_19 : decode cX1_readAll 19 = .ok (.if_icmp .ge 57, 3) := by decide +kernel
theorem dX1_readAll_22 : decode cX1_readAll 22 = .ok (.iload 5, 2) := by decide +kernel
theorem dX1_readAll_24 : decode cX1_readAll 24 = .ok (.iload 4, 2) := by decide +kernel
theorem dX1_readAll_26 : decode cX1_readAll 26 = .ok (.if_icmp .le 44, 3) := by decide +kernel
theorem dX1_readAll_29 : decode cX1_readAll 29 = .ok (.lload_n 1, 1) := by decide +kernel
theorem dX1_readAll_30 : decode cX1_readAll 30 = .ok (.iload 5, 2) := by decide +kernel
theorem dX1_readAll_32 : decode cX1_readAll 32 = .ok (.iconst 1, 1) := by decide +kernel
theorem dX1_readAll_33 : decode cX1_readAll 33 = .ok (.isub, 1) := by decide +kernel
theorem dX1_readAll_34 : decode cX1_readAll 34 = .ok (.invokestatic 22, 3) := by decide +kernel
theorem dX1_readAll_37 : decode cX1_readAll 37 = .ok (.iconst 1, 1) := by decide +kernel
theorem dX1_readAll_38 : decode cX1_readAll 38 = .ok (.if_icmp .ne 32, 3) := by decide +kernel
theorem dX1_readAll_41 : decode cX1_readAll 41 = .ok (.lload_n 1, 1) := by decide +kernel
theorem dX1_readAll_42 : decode cX1_readAll 42 = .ok (.iload 5, 2) := by decide +kernel
theorem dX1_readAll_44 : decode cX1_readAll 44 = .ok (.invokestatic 22, 3) := by decide +kernel
theorem dX1_readAll_47 : decode cX1_readAll 47 = .ok (.iconst 1, 1) := by decide +kernel
theorem dX1_readAll_48 : decode cX1_readAll 48 = .ok (.if_icmp .ne 22, 3) := by decide +kernel
theorem dX1_readAll_51 : decode cX1_readAll 51 = .ok (.aload_n 0, 1) := by decide +kernel
theorem dX1_readAll_52 : decode cX1_readAll 52 = .ok (.lload_n 1, 1) := by decide +kernel
theorem dX1_readAll_53 : decode cX1_readAll 53 = .ok (.iload 4, 2) := by decide +kernel
theorem dX1_readAll_55 : decode cX1_readAll 55 = .ok (.lushr, 1) := by decide +kernel
theorem dX1_readAll_56 : decode cX1_readAll 56 = .ok (.iload 5, 2) := by decide +kernel
theorem dX1_readAll_58 : decode cX1_readAll 58 = .ok (.iload 4, 2) := by decide +kernel
theorem dX1_readAll_60 : decode cX1_readAll 60 = .ok (.isub, 1) := by decide +kernel
theorem dX1_readAll_61 : decode cX1_readAll 61 = .ok (.invokevirtual 26, 3) := by decide +kernel
theorem dX1_readAll_64 : decode cX1_readAll 64 = .ok (.iload 5, 2) := by decide +kernel
theorem dX1_readAll_66 : decode cX1_readAll 66 = .ok (.iconst 1, 1) := by decide +kernel
theorem dX1_readAll_67 : decode cX1_readAll 67 = .ok (.iadd, 1) := by decide +kernel
theorem dX1_readAll_68 : decode cX1_readAll 68 = .ok (.istore 4, 2) := by decide +kernel
theorem dX1_readAll_70 : decode cX1_readAll 70 = .ok (.iinc 5 1, 3) := by decide +kernel
theorem dX1_readAll_73 : decode cX1_readAll 73 = .ok (.goto (-57), 3) := by decide +kernel
theorem dX1_readAll_76 : decode cX1_readAll 76 = .ok (.aload_n 0, 1) := by decide +kernel
theorem dX1_readAll_77 : decode cX1_readAll 77 = .ok (.iload_n 3, 1) := by decide +kernel
theorem dX1_readAll_78 : decode cX1_readAll 78 = .ok (.iload 4, 2) := by decide +kernel
theorem dX1_readAll_80 : decode cX1_readAll 80 = .ok (.isub, 1) := by decide +kernel
theorem dX1_readAll_81 : decode cX1_readAll 81 = .ok (.putfield 30, 3) := by decide +kernel
theorem dX1_readAll_84 : decode cX1_readAll 84 = .ok (.return_, 1) := by decide +kernel
theorem dX1_endNumber_0 : decode cX1_endNumber 0 = .ok (.iload_n 3, 1) := by decide +kernel
theorem dX1_endNumber_1 : decode cX1_endNumber 1 = .ok (.bipush 18, 2) := by decide +kernel
theorem dX1_endNumber_3 : decode cX1_endNumber 3 = .ok (.if_icmp .le 16, 3) := by decide +kernel
theorem dX1_endNumber_6 : decode cX1_endNumber 6 = .ok (.aload_n 0, 1) := by decide +kernel
theorem dX1_endNumber_7 : decode cX1_endNumber 7 = .ok (.dup, 1) := by decide +kernel
theorem dX1_endNumber_8 : decode cX1_endNumber 8 = .ok (.getfield 19, 3) := by decide +kernel
theorem dX1_endNumber_11 : decode cX1_endNumber 11 = .ok (.iconst 1, 1) := by decide +kernel
theorem dX1_endNumber_12 : decode cX1_endNumber 12 = .ok (.iadd, 1) := by decide +kernel
theorem dX1_endNumber_13 : decode cX1_endNumber 13 = .ok (.putfield 19, 3) := by decide +kernel
theorem dX1_endNumber_16 : decode cX1_endNumber 16 = .ok (.goto 56, 3) := by decide +kernel
theorem dX1_endNumber_19 : decode cX1_endNumber 19 = .ok (.aload_n 0, 1) := by decide +kernel
theorem dX1_endNumber_20 : decode cX1_endNumber 20 = .ok (.getfield 15, 3) := by decide +kernel
theorem dX1_endNumber_23 : decode cX1_endNumber 23 = .ok (.ifCond .lt 49, 3) := by decide +kernel
theorem dX1_endNumber_26 : decode cX1_endNumber 26 = .ok (.aload_n 0, 1) := by decide +kernel
theorem dX1_endNumber_27 : decode cX1_endNumber 27 = .ok (.getfield 15, 3) := by decide +kernel
theorem dX1_endNumber_30 : decode cX1_endNumber 30 = .ok (.aload_n 0, 1) := by decide +kernel
theorem dX1_endNumber_31 : decode cX1_endNumber 31 = .ok (.getfield 9, 3) := by decide +kernel
theorem dX1_endNumber_34 : decode cX1_endNumber 34 = .ok (.arraylength, 1) := by decide +kernel
theorem dX1_endNumber_35 : decode cX1_endNumber 35 = .ok (.if_icmp .ge 37, 3) := by decide +kernel
theorem dX1_endNumber_38 : decode cX1_endNumber 38 = .ok (.lload_n 1, 1) := by decide +kernel
theorem dX1_endNumber_39 : decode cX1_endNumber 39 = .ok (.lconst 1, 1) := by decide +kernel
theorem dX1_endNumber_40 : decode cX1_endNumber 40 = .ok (.iload_n 3, 1) := by decide +kernel
theorem dX1_endNumber_41 : decode cX1_endNumber 41 = .ok (.lshl, 1) := by decide +kernel
theorem dX1_endNumber_42 : decode cX1_endNumber 42 = .ok (.lconst 1, 1) := by decide +kernel
theorem dX1_endNumber_43 : decode cX1_endNumber 43 = .ok (.lsub, 1) := by decide +kernel
theorem dX1_endNumber_44 : decode cX1_endNumber 44 = .ok (.land, 1) := by decide +kernel
theorem dX1_endNumber_45 : decode cX1_endNumber 45 = .ok (.lstore 4, 2) := by decide +kernel
theorem dX1_endNumber_47 : decode cX1_endNumber 47 = .ok (.aload_n 0, 1) := by decide +kernel
theorem dX1_endNumber_48 : decode cX1_endNumber 48 = .ok (.getfield 9, 3) := by decide +kernel
theorem dX1_endNumber_51 : decode cX1_endNumber 51 = .ok (.aload_n 0, 1) := by decide +kernel
theorem dX1_endNumber_52 : decode cX1_endNumber 52 = .ok (.getfield 15, 3) := by decide +kernel
theorem dX1_endNumber_55 : decode cX1_endNumber 55 = .ok (.lload 4, 2) := by decide +kernel
theorem dX1_endNumber_57 : decode cX1_endNumber 57 = .ok (.l2i, 1) := by decide +kernel
theorem dX1_endNumber_58 : decode cX1_endNumber 58 = .ok (.invokestatic 33, 3) := by decide +kernel
theorem dX1_endNumber_61 : decode cX1_endNumber 61 = .ok (.iastore, 1) := by decide +kernel
theorem dX1_endNumber_62 : decode cX1_endNumber 62 = .ok (.aload_n 0, 1) := by decide +kernel
theorem dX1_endNumber_63 : decode cX1_endNumber 63 = .ok (.dup, 1) := by decide +kernel
theorem dX1_endNumber_64 : decode cX1_endNumber 64 = .ok (.getfield 15, 3) := by decide +kernel
theorem dX1_endNumber_67 : decode cX1_endNumber 67 = .ok (.iconst 1, 1) := by decide +kernel
theorem dX1_endNumber_68 : decode cX1_endNumber 68 = .ok (.iadd, 1) := by decide +kernel
theorem dX1_endNumber_69 : decode cX1_endNumber 69 = .ok (.putfield 15, 3) := by decide +kernel
theorem dX1_endNumber_72 : decode cX1_endNumber 72 = .ok (.return_, 1) := by decide +kernel
theorem dX1_numberAt_0 : decode cX1_numberAt 0 = .ok (.iload_n 1, 1) := by decide +kernel
theorem dX1_numberAt_1 : decode cX1_numberAt 1 = .ok (.ifCond .lt 21, 3) := by decide +kernel
theorem dX1_numberAt_4 : decode cX1_numberAt 4 = .ok (.iload_n 1, 1) := by decide +kernel
theorem dX1_numberAt_5 : decode cX1_numberAt 5 = .ok (.aload_n 0, 1) := by decide +kernel
theorem dX1_numberAt_6 : decode cX1_numberAt 6 = .ok (.getfield 9, 3) := by decide +kernel
theorem dX1_numberAt_9 : decode cX1_numberAt 9 = .ok (.arraylength, 1) := by decide +kernel
theorem dX1_numberAt_10 : decode cX1_numberAt 10 = .ok (.if_icmp .ge 12, 3) := by decide +kernel
theorem dX1_numberAt_13 : decode cX1_numberAt 13 = .ok (.aload_n 0, 1) := by decide +kernel
theorem dX1_numberAt_14 : decode cX1_numberAt 14 = .ok (.getfield 9, 3) := by decide +kernel
theorem dX1_numberAt_17 : decode cX1_numberAt 17 = .ok (.iload_n 1, 1) := by decide +kernel
theorem dX1_numberAt_18 : decode cX1_numberAt 18 = .ok (.iaload, 1) := by decide +kernel
theorem dX1_numberAt_19 : decode cX1_numberAt 19 = .ok (.goto 4, 3) := by decide +kernel
theorem dX1_numberAt_22 : decode cX1_numberAt 22 = .ok (.iconst 0, 1) := by decide +kernel
theorem dX1_numberAt_23 : decode cX1_numberAt 23 = .ok (.ireturn, 1) := by decide +kernel
theorem dX2_init_0 : decode cX2_init 0 = .ok (.aload_n 0, 1) := by decide +kernel
theorem dX2_init_1 : decode cX2_init 1 = .ok (.invokespecial 3, 3) := by decide +kernel
theorem dX2_init_4 : decode cX2_init 4 = .ok (.aload_n 0, 1) := by decide +kernel
theorem dX2_init_5 : decode cX2_init 5 = .ok (.bipush 6, 2) := by decide +kernel
theorem dX2_init_7 : decode cX2_init 7 = .ok (.newarray .int, 2) := by decide +kernel
theorem dX2_init_9 : decode cX2_init 9 = .ok (.putfield 9, 3) := by decide +kernel
theorem dX2_init_12 : decode cX2_init 12 = .ok (.aload_n 0, 1) := by decide +kernel
theorem dX2_init_13 : decode cX2_init 13 = .ok (.iconst (-1), 1) := by decide +kernel
theorem dX2_init_14 : decode cX2_init 14 = .ok (.putfield 15, 3) := by decide +kernel
theorem dX2_init_17 : decode cX2_init 17 = .ok (.aload_n 0, 1) := by decide +kernel
theorem dX2_init_18 : decode cX2_init 18 = .ok (.iconst 0, 1) := by decide +kernel
theorem dX2_init_19 : decode cX2_init 19 = .ok (.putfield 19, 3) := by decide +kernel
theorem dX2_init_22 : decode cX2_init 22 = .ok (.return_, 1) := by decide +kernel
theorem dX2_copyOf_0 : decode cX2_copyOf 0 = .ok (.iconst 0, 1) := by decide +kernel
theorem dX2_copyOf_1 : decode cX2_copyOf 1 = .ok (.istore_n 2, 1) := by decide +kernel
theorem dX2_copyOf_2 : decode cX2_copyOf 2 = .ok (.iload_n 2, 1) := by decide +kernel
theorem dX2_copyOf_3 : decode cX2_copyOf 3 = .ok (.bipush 6, 2) := by decide +kernel
theorem dX2_copyOf_5 : decode cX2_copyOf 5 = .ok (.if_icmp .ge 19, 3) := by decide +kernel
theorem dX2_copyOf_8 : decode cX2_copyOf 8 = .ok (.aload_n 0, 1) := by decide +kernel
theorem dX2_copyOf_9 : decode cX2_copyOf 9 = .ok (.iload_n 2, 1) := by decide +kernel
theorem dX2_copyOf_10 : decode cX2_copyOf 10 = .ok (.aload_n 1, 1) := by decide +kernel
theorem dX2_copyOf_11 : decode cX2_copyOf 11 = .ok (.iload_n 2, 1) := by decide +kernel
theorem dX2_copyOf_12 : decode cX2_copyOf 12 = .ok (.invokevirtual 22, 3) := by decide +kernel
theorem dX2_copyOf_15 : decode cX2_copyOf 15 = .ok (.invokevirtual 26, 3) := by decide +kernel
theorem dX2_copyOf_18 : decode cX2_copyOf 18 = .ok (.iinc 2 1, 3) := by decide +kernel
theorem dX2_copyOf_21 : decode cX2_copyOf 21 = .ok (.goto (-19), 3) := by decide +kernel
theorem dX2_copyOf_24 : decode cX2_copyOf 24 = .ok (.aload_n 0, 1) := by decide +kernel
theorem dX2_copyOf_25 : decode cX2_copyOf 25 = .ok (.aload_n 1, 1) := by decide +kernel
theorem dX2_copyOf_26 : decode cX2_copyOf 26 = .ok (.getfield 30, 3) := by decide +kernel
theorem dX2_copyOf_29 : decode cX2_copyOf 29 = .ok (.putfield 30, 3) := by decide +kernel
theorem dX2_copyOf_32 : decode cX2_copyOf 32 = .ok (.aload_n 0, 1) := by decide +kernel
theorem dX2_copyOf_33 : decode cX2_copyOf 33 = .ok (.aload_n 1, 1) := by decide +kernel
theorem dX2_copyOf_34 : decode cX2_copyOf 34 = .ok (.getfield 34, 3) := by decide +kernel
theorem dX2_copyOf_37 : decode cX2_copyOf 37 = .ok (.putfield 34, 3) := by decide +kernel
theorem dX2_copyOf_40 : decode cX2_copyOf 40 = .ok (.aload_n 0, 1) := by decide +kernel
theorem dX2_copyOf_41 : decode cX2_copyOf 41 = .ok (.aload_n 1, 1) := by decide +kernel
theorem dX2_copyOf_42 : decode cX2_copyOf 42 = .ok (.getfield 15, 3) := by decide +kernel
theorem dX2_copyOf_45 : decode cX2_copyOf 45 = .ok (.putfield 15, 3) := by decide +kernel
theorem dX2_copyOf_48 : decode cX2_copyOf 48 = .ok (.aload_n 0, 1) := by decide +kernel
theorem dX2_copyOf_49 : decode cX2_copyOf 49 = .ok (.aload_n 1, 1) := by decide +kernel
theorem dX2_copyOf_50 : decode cX2_copyOf 50 = .ok (.getfield 19, 3) := by decide +kernel
theorem dX2_copyOf_53 : decode cX2_copyOf 53 = .ok (.putfield 19, 3) := by decide +kernel
theorem dX2_copyOf_56 : decode cX2_copyOf 56 = .ok (.return_, 1) := by decide +kernel
theorem dX2_numberIn_0 : decode cX2_numberIn 0 = .ok (.iload_n 1, 1) := by decide +kernel
theorem dX2_numberIn_1 : decode cX2_numberIn 1 = .ok (.ifCond .lt 21, 3) := by decide +kernel
theorem dX2_numberIn_4 : decode cX2_numberIn 4 = .ok (.iload_n 1, 1) := by decide +kernel
theorem dX2_numberIn_5 : decode cX2_numberIn 5 = .ok (.aload_n 0, 1) := by decide +kernel
theorem dX2_numberIn_6 : decode cX2_numberIn 6 = .ok (.getfield 9, 3) := by decide +kernel
theorem dX2_numberIn_9 : decode cX2_numberIn 9 = .ok (.arraylength, 1) := by decide +kernel
theorem dX2_numberIn_10 : decode cX2_numberIn 10 = .ok (.if_icmp .ge 12, 3) := by decide +kernel
theorem dX2_numberIn_13 : decode cX2_numberIn 13 = .ok (.aload_n 0, 1) := by decide +kernel
theorem dX2_numberIn_14 : decode cX2_numberIn 14 = .ok (.getfield 9, 3) := by decide +kernel
theorem dX2_numberIn_17 : decode cX2_numberIn 17 = .ok (.iload_n 1, 1) := by decide +kernel
theorem dX2_numberIn_18 : decode cX2_numberIn 18 = .ok (.iaload, 1) := by decide +kernel
theorem dX2_numberIn_19 : decode cX2_numberIn 19 = .ok (.goto 4, 3) := by decide +kernel
theorem dX2_numberIn_22 : decode cX2_numberIn 22 = .ok (.iconst 0, 1) := by decide +kernel
theorem dX2_numberIn_23 : decode cX2_numberIn 23 = .ok (.ireturn, 1) := by decide +kernel
theorem dX2_give_0 : decode cX2_give 0 = .ok (.iload_n 1, 1) := by decide +kernel
theorem dX2_give_1 : decode cX2_give 1 = .ok (.ifCond .lt 19, 3) := by decide +kernel
theorem dX2_give_4 : decode cX2_give 4 = .ok (.iload_n 1, 1) := by decide +kernel
theorem dX2_give_5 : decode cX2_give 5 = .ok (.aload_n 0, 1) := by decide +kernel
theorem dX2_give_6 : decode cX2_give 6 = .ok (.getfield 9, 3) := by decide +kernel
theorem dX2_give_9 : decode cX2_give 9 = .ok (.arraylength, 1) := by decide +kernel
theorem dX2_give_10 : decode cX2_give 10 = .ok (.if_icmp .ge 10, 3) := by decide +kernel
theorem dX2_give_13 : decode cX2_give 13 = .ok (.aload_n 0, 1) := by decide +kernel
theorem dX2_give_14 : decode cX2_give 14 = .ok (.getfield 9, 3) := by decide +kernel
theorem dX2_give_17 : decode cX2_give 17 = .ok (.iload_n 1, 1) := by decide +kernel
theorem dX2_give_18 : decode cX2_give 18 = .ok (.iload_n 2, 1) := by decide +kernel
theorem dX2_give_19 : decode cX2_give 19 = .ok (.iastore, 1) := by decide +kernel
theorem dX2_give_20 : decode cX2_give 20 = .ok (.return_, 1) := by decide +kernel
theorem dX2_sum_0 : decode cX2_sum 0 = .ok (.iconst 0, 1) := by decide +kernel
theorem dX2_sum_1 : decode cX2_sum 1 = .ok (.istore_n 1, 1) := by decide +kernel
theorem dX2_sum_2 : decode cX2_sum 2 = .ok (.iconst 0, 1) := by decide +kernel
theorem dX2_sum_3 : decode cX2_sum 3 = .ok (.istore_n 2, 1) := by decide +kernel
theorem dX2_sum_4 : decode cX2_sum 4 = .ok (.iload_n 2, 1) := by decide +kernel
theorem dX2_sum_5 : decode cX2_sum 5 = .ok (.bipush 6, 2) := by decide +kernel
theorem dX2_sum_7 : decode cX2_sum 7 = .ok (.if_icmp .ge 17, 3) := by decide +kernel
theorem dX2_sum_10 : decode cX2_sum 10 = .ok (.iload_n 1, 1) := by decide +kernel
theorem dX2_sum_11 : decode cX2_sum 11 = .ok (.aload_n 0, 1) := by decide +kernel
theorem dX2_sum_12 : decode cX2_sum 12 = .ok (.iload_n 2, 1) := by decide +kernel
theorem dX2_sum_13 : decode cX2_sum 13 = .ok (.invokevirtual 22, 3) := by decide +kernel
theorem dX2_sum_16 : decode cX2_sum 16 = .ok (.iadd, 1) := by decide +kernel
theorem dX2_sum_17 : decode cX2_sum 17 = .ok (.istore_n 1, 1) := by decide +kernel
theorem dX2_sum_18 : decode cX2_sum 18 = .ok (.iinc 2 1, 3) := by decide +kernel
theorem dX2_sum_21 : decode cX2_sum 21 = .ok (.goto (-17), 3) := by decide +kernel
theorem dX2_sum_24 : decode cX2_sum 24 = .ok (.iload_n 1, 1) := by decide +kernel
theorem dX2_sum_25 : decode cX2_sum 25 = .ok (.ireturn, 1) := by decide +kernel
theorem dX2_hasRoomFor_0 : decode cX2_hasRoomFor 0 = .ok (.aload_n 0, 1) := by decide +kernel
theorem dX2_hasRoomFor_1 : decode cX2_hasRoomFor 1 = .ok (.getfield 34, 3) := by decide +kernel
theorem dX2_hasRoomFor_4 : decode cX2_hasRoomFor 4 = .ok (.iload_n 1, 1) := by decide +kernel
theorem dX2_hasRoomFor_5 : decode cX2_hasRoomFor 5 = .ok (.invokestatic 37, 3) := by decide +kernel
theorem dX2_hasRoomFor_8 : decode cX2_hasRoomFor 8 = .ok (.invokestatic 40, 3) := by decide +kernel
theorem dX2_hasRoomFor_11 : decode cX2_hasRoomFor 11 = .ok (.iadd, 1) := by decide +kernel
theorem dX2_hasRoomFor_12 : decode cX2_hasRoomFor 12 = .ok (.bipush 64, 2) := by decide +kernel
theorem dX2_hasRoomFor_14 : decode cX2_hasRoomFor 14 = .ok (.if_icmp .gt 7, 3) := by decide +kernel
theorem dX2_hasRoomFor_17 : decode cX2_hasRoomFor 17 = .ok (.iconst 1, 1) := by decide +kernel
theorem dX2_hasRoomFor_18 : decode cX2_hasRoomFor 18 = .ok (.goto 4, 3) := by decide +kernel
theorem dX2_hasRoomFor_21 : decode cX2_hasRoomFor 21 = .ok (.iconst 0, 1) := by decide +kernel
theorem dX2_hasRoomFor_22 : decode cX2_hasRoomFor 22 = .ok (.ireturn, 1) := by decide +kernel
theorem dX2_putCode_0 : decode cX2_putCode 0 = .ok (.iload_n 1, 1) := by decide +kernel
theorem dX2_putCode_1 : decode cX2_putCode 1 = .ok (.invokestatic 37, 3) := by decide +kernel
theorem dX2_putCode_4 : decode cX2_putCode 4 = .ok (.istore_n 2, 1) := by decide +kernel
theorem dX2_putCode_5 : decode cX2_putCode 5 = .ok (.iload_n 2, 1) := by decide +kernel
theorem dX2_putCode_6 : decode cX2_putCode 6 = .ok (.invokestatic 40, 3) := by decide +kernel
theorem dX2_putCode_9 : decode cX2_putCode 9 = .ok (.istore_n 3, 1) := by decide +kernel
theorem dX2_putCode_10 : decode cX2_putCode 10 = .ok (.aload_n 0, 1) := by decide +kernel
theorem dX2_putCode_11 : decode cX2_putCode 11 = .ok (.dup, 1) := by decide +kernel
theorem dX2_putCode_12 : decode cX2_putCode 12 = .ok (.getfield 30, 3) := by decide +kernel
theorem dX2_putCode_15 : decode cX2_putCode 15 = .ok (.iload_n 2, 1) := by decide +kernel
theorem dX2_putCode_16 : decode cX2_putCode 16 = .ok (.i2l, 1) := by decide +kernel
theorem dX2_putCode_17 : decode cX2_putCode 17 = .ok (.lconst 1, 1) := by decide +kernel
theorem dX2_putCode_18 : decode cX2_putCode 18 = .ok (.iload_n 3, 1) := by decide +kernel
theorem dX2_putCode_19 : decode cX2_putCode 19 = .ok (.iconst 1, 1) := by decide +kernel
theorem dX2_putCode_20 : decode cX2_putCode 20 = .ok (.isub, 1) := by decide +kernel
theorem dX2_putCode_21 : decode cX2_putCode 21 = .ok (.lshl, 1) := by decide +kernel
theorem dX2_putCode_22 : decode cX2_putCode 22 = .ok (.lor, 1) := by decide +kernel
theorem dX2_putCode_23 : decode cX2_putCode 23 = .ok (.aload_n 0, 1) := by decide +kernel
theorem dX2_putCode_24 : decode cX2_putCode 24 = .ok (.getfield 34, 3) := by decide +kernel
theorem dX2_putCode_27 : decode cX2_putCode 27 = .ok (.lshl, 1) := by decide +kernel
theorem dX2_putCode_28 : decode cX2_putCode 28 = .ok (.lor, 1) := by decide +kernel
theorem dX2_putCode_29 : decode cX2_putCode 29 = .ok (.putfield 30, 3) := by decide +kernel
theorem dX2_putCode_32 : decode cX2_putCode 32 = .ok (.aload_n 0, 1) := by decide +kernel
theorem dX2_putCode_33 : decode cX2_putCode 33 = .ok (.dup, 1) := by decide +kernel
theorem dX2_putCode_34 : decode cX2_putCode 34 = .ok (.getfield 34, 3) := by decide +kernel
theorem dX2_putCode_37 : decode cX2_putCode 37 = .ok (.iload_n 3, 1) := by decide +kernel
theorem dX2_putCode_38 : decode cX2_putCode 38 = .ok (.iadd, 1) := by decide +kernel
theorem dX2_putCode_39 : decode cX2_putCode 39 = .ok (.putfield 34, 3) := by decide +kernel
theorem dX2_putCode_42 : decode cX2_putCode 42 = .ok (.return_, 1) := by decide +kernel
theorem dX2_turnDigit_0 : decode cX2_turnDigit 0 = .ok (.aload_n 0, 1) := by decide +kernel
theorem dX2_turnDigit_1 : decode cX2_turnDigit 1 = .ok (.dup, 1) := by decide +kernel
theorem dX2_turnDigit_2 : decode cX2_turnDigit 2 = .ok (.getfield 30, 3) := by decide +kernel
theorem dX2_turnDigit_5 : decode cX2_turnDigit 5 = .ok (.lconst 1, 1) := by decide +kernel
theorem dX2_turnDigit_6 : decode cX2_turnDigit 6 = .ok (.iload_n 1, 1) := by decide +kernel
theorem dX2_turnDigit_7 : decode cX2_turnDigit 7 = .ok (.lshl, 1) := by decide +kernel
theorem dX2_turnDigit_8 : decode cX2_turnDigit 8 = .ok (.lxor, 1) := by decide +kernel
theorem dX2_turnDigit_9 : decode cX2_turnDigit 9 = .ok (.putfield 30, 3) := by decide +kernel
theorem dX2_turnDigit_12 : decode cX2_turnDigit 12 = .ok (.return_, 1) := by decide +kernel
theorem dX2_dropFirst_0 : decode cX2_dropFirst 0 = .ok (.aload_n 0, 1) := by decide +kernel
theorem dX2_dropFirst_1 : decode cX2_dropFirst 1 = .ok (.iload_n 1, 1) := by decide +kernel
theorem dX2_dropFirst_2 : decode cX2_dropFirst 2 = .ok (.bipush 64, 2) := by decide +kernel
theorem dX2_dropFirst_4 : decode cX2_dropFirst 4 = .ok (.if_icmp .lt 7, 3) := by decide +kernel
theorem dX2_dropFirst_7 : decode cX2_dropFirst 7 = .ok (.lconst 0, 1) := by decide +kernel
theorem dX2_dropFirst_8 : decode cX2_dropFirst 8 = .ok (.goto 9, 3) := by decide +kernel
theorem dX2_dropFirst_11 : decode cX2_dropFirst 11 = .ok (.aload_n 0, 1) := by decide +kernel
theorem dX2_dropFirst_12 : decode cX2_dropFirst 12 = .ok (.getfield 30, 3) := by decide +kernel
theorem dX2_dropFirst_15 : decode cX2_dropFirst 15 = .ok (.iload_n 1, 1) := by decide +kernel
theorem dX2_dropFirst_16 : decode cX2_dropFirst 16 = .ok (.lushr, 1) := by decide +kernel
theorem dX2_dropFirst_17 : decode cX2_dropFirst 17 = .ok (.putfield 30, 3) := by decide +kernel
theorem dX2_dropFirst_20 : decode cX2_dropFirst 20 = .ok (.aload_n 0, 1) := by decide +kernel
theorem dX2_dropFirst_21 : decode cX2_dropFirst 21 = .ok (.dup, 1) := by decide +kernel
theorem dX2_dropFirst_22 : decode cX2_dropFirst 22 = .ok (.getfield 34, 3) := by decide +kernel
theorem dX2_dropFirst_25 : decode cX2_dropFirst 25 = .ok (.iload_n 1, 1) := by decide +kernel
theorem dX2_dropFirst_26 : decode cX2_dropFirst 26 = .ok (.isub, 1) := by decide +kernel
theorem dX2_dropFirst_27 : decode cX2_dropFirst 27 = .ok (.putfield 34, 3) := by decide +kernel
theorem dX2_dropFirst_30 : decode cX2_dropFirst 30 = .ok (.return_, 1) := by decide +kernel
theorem dX3_init_0 : decode cX3_init 0 = .ok (.aload_n 0, 1) := by decide +kernel
theorem dX3_init_1 : decode cX3_init 1 = .ok (.invokespecial 3, 3) := by decide +kernel
theorem dX3_init_4 : decode cX3_init 4 = .ok (.return_, 1) := by decide +kernel
theorem dX3_start_0 : decode cX3_start 0 = .ok (.aload_n 0, 1) := by decide +kernel
theorem dX3_start_1 : decode cX3_start 1 = .ok (.iconst 0, 1) := by decide +kernel
theorem dX3_start_2 : decode cX3_start 2 = .ok (.putfield 11, 3) := by decide +kernel
theorem dX3_start_5 : decode cX3_start 5 = .ok (.return_, 1) := by decide +kernel
theorem dX3_isComplete_0 : decode cX3_isComplete 0 = .ok (.aload_n 0, 1) := by decide +kernel
theorem dX3_isComplete_1 : decode cX3_isComplete 1 = .ok (.getfield 11, 3) := by decide +kernel
theorem dX3_isComplete_4 : decode cX3_isComplete 4 = .ok (.iconst 4, 1) := by decide +kernel
theorem dX3_isComplete_5 : decode cX3_isComplete 5 = .ok (.if_icmp .eq 11, 3) := by decide +kernel
theorem dX3_isComplete_8 : decode cX3_isComplete 8 = .ok (.aload_n 0, 1) := by decide +kernel
theorem dX3_isComplete_9 : decode cX3_isComplete 9 = .ok (.getfield 11, 3) := by decide +kernel
theorem dX3_isComplete_12 : decode cX3_isComplete 12 = .ok (.iconst 5, 1) := by decide +kernel
theorem dX3_isComplete_13 : decode cX3_isComplete 13 = .ok (.if_icmp .ne 7, 3) := by decide +kernel
theorem dX3_isComplete_16 : decode cX3_isComplete 16 = .ok (.iconst 1, 1) := by decide +kernel
theorem dX3_isComplete_17 : decode cX3_isComplete 17 = .ok (.goto 4, 3) := by decide +kernel
theorem dX3_isComplete_20 : decode cX3_isComplete 20 = .ok (.iconst 0, 1) := by decide +kernel
theorem dX3_isComplete_21 : decode cX3_isComplete 21 = .ok (.ireturn, 1) := by decide +kernel
theorem dX3_take_0 : decode cX3_take 0 = .ok (.aload_n 0, 1) := by decide +kernel
theorem dX3_take_1 : decode cX3_take 1 = .ok (.getfield 11, 3) := by decide +kernel
theorem dX3_take_4 : decode cX3_take 4 = .ok (.tableswitch 82 0 4 #[36, 42, 48, 54, 60], 36) := by decide +kernel
theorem dX3_take_40 : decode cX3_take 40 = .ok (.aload_n 0, 1) := by decide +kernel
theorem dX3_take_41 : decode cX3_take 41 = .ok (.iload_n 1, 1) := by decide +kernel
theorem dX3_take_42 : decode cX3_take 42 = .ok (.invokevirtual 15, 3) := by decide +kernel
theorem dX3_take_45 : decode cX3_take 45 = .ok (.ireturn, 1) := by decide +kernel
theorem dX3_take_46 : decode cX3_take 46 = .ok (.aload_n 0, 1) := by decide +kernel
theorem dX3_take_47 : decode cX3_take 47 = .ok (.iload_n 1, 1) := by decide +kernel
theorem dX3_take_48 : decode cX3_take 48 = .ok (.invokevirtual 19, 3) := by decide +kernel
theorem dX3_take_51 : decode cX3_take 51 = .ok (.ireturn, 1) := by decide +kernel
theorem dX3_take_52 : decode cX3_take 52 = .ok (.aload_n 0, 1) := by decide +kernel
theorem dX3_take_53 : decode cX3_take 53 = .ok (.iload_n 1, 1) := by decide +kernel
theorem dX3_take_54 : decode cX3_take 54 = .ok (.invokevirtual 22, 3) := by decide +kernel
theorem dX3_take_57 : decode cX3_take 57 = .ok (.ireturn, 1) := by decide +kernel
theorem dX3_take_58 : decode cX3_take 58 = .ok (.aload_n 0, 1) := by decide +kernel
theorem dX3_take_59 : decode cX3_take 59 = .ok (.iload_n 1, 1) := by decide +kernel
theorem dX3_take_60 : decode cX3_take 60 = .ok (.invokevirtual 25, 3) := by decide +kernel
theorem dX3_take_63 : decode cX3_take 63 = .ok (.ireturn, 1) := by decide +kernel
theorem dX3_take_64 : decode cX3_take 64 = .ok (.aload_n 0, 1) := by decide +kernel
theorem dX3_take_65 : decode cX3_take 65 = .ok (.iload_n 1, 1) := by decide +kernel
theorem dX3_take_66 : decode cX3_take 66 = .ok (.invokevirtual 28, 3) := by decide +kernel
theorem dX3_take_69 : decode cX3_take 69 = .ok (.ifCond .ne 11, 3) := by decide +kernel
theorem dX3_take_72 : decode cX3_take 72 = .ok (.aload_n 0, 1) := by decide +kernel
theorem dX3_take_73 : decode cX3_take 73 = .ok (.iload_n 1, 1) := by decide +kernel
theorem dX3_take_74 : decode cX3_take 74 = .ok (.invokevirtual 31, 3) := by decide +kernel
theorem dX3_take_77 : decode cX3_take 77 = .ok (.ifCond .eq 7, 3) := by decide +kernel
theorem dX3_take_80 : decode cX3_take 80 = .ok (.iconst 1, 1) := by decide +kernel
theorem dX3_take_81 : decode cX3_take 81 = .ok (.goto 4, 3) := by decide +kernel
theorem dX3_take_84 : decode cX3_take 84 = .ok (.iconst 0, 1) := by decide +kernel
theorem dX3_take_85 : decode cX3_take 85 = .ok (.ireturn, 1) := by decide +kernel
theorem dX3_take_86 : decode cX3_take 86 = .ok (.aload_n 0, 1) := by decide +kernel
theorem dX3_take_87 : decode cX3_take 87 = .ok (.iload_n 1, 1) := by decide +kernel
theorem dX3_take_88 : decode cX3_take 88 = .ok (.invokevirtual 31, 3) := by decide +kernel
theorem dX3_take_91 : decode cX3_take 91 = .ok (.ireturn, 1) := by decide +kernel
theorem dX3_takeBegin_0 : decode cX3_takeBegin 0 = .ok (.iload_n 1, 1) := by decide +kernel
theorem dX3_takeBegin_1 : decode cX3_takeBegin 1 = .ok (.bipush 115, 2) := by decide +kernel
theorem dX3_takeBegin_3 : decode cX3_takeBegin 3 = .ok (.if_icmp .ne 13, 3) := by decide +kernel
theorem dX3_takeBegin_6 : decode cX3_takeBegin 6 = .ok (.aload_n 0, 1) := by decide +kernel
theorem dX3_takeBegin_7 : decode cX3_takeBegin 7 = .ok (.iload_n 1, 1) := by decide +kernel
theorem dX3_takeBegin_8 : decode cX3_takeBegin 8 = .ok (.iconst 1, 1) := by decide +kernel
theorem dX3_takeBegin_9 : decode cX3_takeBegin 9 = .ok (.sipush 6764, 3) := by decide +kernel
theorem dX3_takeBegin_12 : decode cX3_takeBegin 12 = .ok (.invokevirtual 34, 3) := by decide +kernel
theorem dX3_takeBegin_15 : decode cX3_takeBegin 15 = .ok (.ireturn, 1) := by decide +kernel
theorem dX3_takeBegin_16 : decode cX3_takeBegin 16 = .ok (.iload_n 1, 1) := by decide +kernel
theorem dX3_takeBegin_17 : decode cX3_takeBegin 17 = .ok (.bipush 102, 2) := by decide +kernel
theorem dX3_takeBegin_19 : decode cX3_takeBegin 19 = .ok (.if_icmp .ne 12, 3) := by decide +kernel
theorem dX3_takeBegin_22 : decode cX3_takeBegin 22 = .ok (.aload_n 0, 1) := by decide +kernel
theorem dX3_takeBegin_23 : decode cX3_takeBegin 23 = .ok (.iload_n 1, 1) := by decide +kernel
theorem dX3_takeBegin_24 : decode cX3_takeBegin 24 = .ok (.iconst 0, 1) := by decide +kernel
theorem dX3_takeBegin_25 : decode cX3_takeBegin 25 = .ok (.bipush 63, 2) := by decide +kernel
theorem dX3_takeBegin_27 : decode cX3_takeBegin 27 = .ok (.invokevirtual 34, 3) := by decide +kernel
theorem dX3_takeBegin_30 : decode cX3_takeBegin 30 = .ok (.ireturn, 1) := by decide +kernel
theorem dX3_takeBegin_31 : decode cX3_takeBegin 31 = .ok (.iload_n 1, 1) := by decide +kernel
theorem dX3_takeBegin_32 : decode cX3_takeBegin 32 = .ok (.invokestatic 38, 3) := by decide +kernel
theorem dX3_takeBegin_35 : decode cX3_takeBegin 35 = .ok (.ifCond .ne 5, 3) := by decide +kernel
theorem dX3_takeBegin_38 : decode cX3_takeBegin 38 = .ok (.iconst 0, 1) := by decide +kernel
theorem dX3_takeBegin_39 : decode cX3_takeBegin 39 = .ok (.ireturn, 1) := by decide +kernel
theorem dX3_takeBegin_40 : decode cX3_takeBegin 40 = .ok (.aload_n 0, 1) := by decide +kernel
theorem dX3_takeBegin_41 : decode cX3_takeBegin 41 = .ok (.iload_n 1, 1) := by decide +kernel
theorem dX3_takeBegin_42 : decode cX3_takeBegin 42 = .ok (.bipush 48, 2) := by decide +kernel
theorem dX3_takeBegin_44 : decode cX3_takeBegin 44 = .ok (.isub, 1) := by decide +kernel
theorem dX3_takeBegin_45 : decode cX3_takeBegin 45 = .ok (.putfield 41, 3) := by decide +kernel
theorem dX3_takeBegin_48 : decode cX3_takeBegin 48 = .ok (.aload_n 0, 1) := by decide +kernel
theorem dX3_takeBegin_49 : decode cX3_takeBegin 49 = .ok (.iconst 1, 1) := by decide +kernel
theorem dX3_takeBegin_50 : decode cX3_takeBegin 50 = .ok (.putfield 11, 3) := by decide +kernel
theorem dX3_takeBegin_53 : decode cX3_takeBegin 53 = .ok (.iconst 1, 1) := by decide +kernel
theorem dX3_takeBegin_54 : decode cX3_takeBegin 54 = .ok (.ireturn, 1) := by decide +kernel
theorem dX3_takeOperation_0 : decode cX3_takeOperation 0 = .ok (.iload_n 1, 1) := by decide +kernel
theorem dX3_takeOperation_1 : decode cX3_takeOperation 1 = .ok (.bipush 61, 2) := by decide +kernel
theorem dX3_takeOperation_3 : decode cX3_takeOperation 3 = .ok (.if_icmp .ne 13, 3) := by decide +kernel
theorem dX3_takeOperation_6 : decode cX3_takeOperation 6 = .ok (.aload_n 0, 1) := by decide +kernel
theorem dX3_takeOperation_7 : decode cX3_takeOperation 7 = .ok (.iload_n 1, 1) := by decide +kernel
theorem dX3_takeOperation_8 : decode cX3_takeOperation 8 = .ok (.iconst 0, 1) := by decide +kernel
theorem dX3_takeOperation_9 : decode cX3_takeOperation 9 = .ok (.sipush 6764, 3) := by decide +kernel
theorem dX3_takeOperation_12 : decode cX3_takeOperation 12 = .ok (.invokevirtual 34, 3) := by decide +kernel
theorem dX3_takeOperation_15 : decode cX3_takeOperation 15 = .ok (.ireturn, 1) := by decide +kernel
theorem dX3_takeOperation_16 : decode cX3_takeOperation 16 = .ok (.iload_n 1, 1) := by decide +kernel
theorem dX3_takeOperation_17 : decode cX3_takeOperation 17 = .ok (.bipush 43, 2) := by decide +kernel
theorem dX3_takeOperation_19 : decode cX3_takeOperation 19 = .ok (.if_icmp .eq 17, 3) := by decide +kernel
theorem dX3_takeOperation_22 : decode cX3_takeOperation 22 = .ok (.iload_n 1, 1) := by decide +kernel
theorem dX3_takeOperation_23 : decode cX3_takeOperation 23 = .ok (.bipush 45, 2) := by decide +kernel
theorem dX3_takeOperation_25 : decode cX3_takeOperation 25 = .ok (.if_icmp .eq 11, 3) := by decide +kernel
theorem dX3_takeOperation_28 : decode cX3_takeOperation 28 = .ok (.iload_n 1, 1) := by decide +kernel
theorem dX3_takeOperation_29 : decode cX3_takeOperation 29 = .ok (.bipush 94, 2) := by decide +kernel
theorem dX3_takeOperation_31 : decode cX3_takeOperation 31 = .ok (.if_icmp .eq 5, 3) := by decide +kernel
theorem dX3_takeOperation_34 : decode cX3_takeOperation 34 = .ok (.iconst 0, 1) := by decide +kernel
theorem dX3_takeOperation_35 : decode cX3_takeOperation 35 = .ok (.ireturn, 1) := by decide +kernel
theorem dX3_takeOperation_36 : decode cX3_takeOperation 36 = .ok (.aload_n 0, 1) := by decide +kernel
theorem dX3_takeOperation_37 : decode cX3_takeOperation 37 = .ok (.iload_n 1, 1) := by decide +kernel
theorem dX3_takeOperation_38 : decode cX3_takeOperation 38 = .ok (.putfield 44, 3) := by decide +kernel
theorem dX3_takeOperation_41 : decode cX3_takeOperation 41 = .ok (.aload_n 0, 1) := by decide +kernel
theorem dX3_takeOperation_42 : decode cX3_takeOperation 42 = .ok (.iload_n 1, 1) := by decide +kernel
theorem dX3_takeOperation_43 : decode cX3_takeOperation 43 = .ok (.bipush 94, 2) := by decide +kernel
theorem dX3_takeOperation_45 : decode cX3_takeOperation 45 = .ok (.if_icmp .ne 7, 3) := by decide +kernel
theorem dX3_takeOperation_48 : decode cX3_takeOperation 48 = .ok (.iconst 5, 1) := by decide +kernel
theorem dX3_takeOperation_49 : decode cX3_takeOperation 49 = .ok (.goto 4, 3) := by decide +kernel
theorem dX3_takeOperation_52 : decode cX3_takeOperation 52 = .ok (.iconst 2, 1) := by decide +kernel
theorem dX3_takeOperation_53 : decode cX3_takeOperation 53 = .ok (.putfield 11, 3) := by decide +kernel
theorem dX3_takeOperation_56 : decode cX3_takeOperation 56 = .ok (.iconst 1, 1) := by decide +kernel
theorem dX3_takeOperation_57 : decode cX3_takeOperation 57 = .ok (.ireturn, 1) := by decide +kernel
theorem dX3_expectNumber_0 : decode cX3_expectNumber 0 = .ok (.aload_n 0, 1) := by decide +kernel
theorem dX3_expectNumber_1 : decode cX3_expectNumber 1 = .ok (.iload_n 1, 1) := by decide +kernel
theorem dX3_expectNumber_2 : decode cX3_expectNumber 2 = .ok (.putfield 44, 3) := by decide +kernel
theorem dX3_expectNumber_5 : decode cX3_expectNumber 5 = .ok (.aload_n 0, 1) := by decide +kernel
theorem dX3_expectNumber_6 : decode cX3_expectNumber 6 = .ok (.iload_n 2, 1) := by decide +kernel
theorem dX3_expectNumber_7 : decode cX3_expectNumber 7 = .ok (.putfield 48, 3) := by decide +kernel
theorem dX3_expectNumber_10 : decode cX3_expectNumber 10 = .ok (.aload_n 0, 1) := by decide +kernel
theorem dX3_expectNumber_11 : decode cX3_expectNumber 11 = .ok (.iload_n 3, 1) := by decide +kernel
theorem dX3_expectNumber_12 : decode cX3_expectNumber 12 = .ok (.putfield 51, 3) := by decide +kernel
theorem dX3_expectNumber_15 : decode cX3_expectNumber 15 = .ok (.aload_n 0, 1) := by decide +kernel
theorem dX3_expectNumber_16 : decode cX3_expectNumber 16 = .ok (.iconst 3, 1) := by decide +kernel
theorem dX3_expectNumber_17 : decode cX3_expectNumber 17 = .ok (.putfield 11, 3) := by decide +kernel
theorem dX3_expectNumber_20 : decode cX3_expectNumber 20 = .ok (.iconst 1, 1) := by decide +kernel
theorem dX3_expectNumber_21 : decode cX3_expectNumber 21 = .ok (.ireturn, 1) := by decide +kernel
theorem dX3_takeOtherStall_0 : decode cX3_takeOtherStall 0 = .ok (.iload_n 1, 1) := by decide +kernel
theorem dX3_takeOtherStall_1 : decode cX3_takeOtherStall 1 = .ok (.invokestatic 38, 3) := by decide +kernel
theorem dX3_takeOtherStall_4 : decode cX3_takeOtherStall 4 = .ok (.ifCond .ne 5, 3) := by decide +kernel
theorem dX3_takeOtherStall_7 : decode cX3_takeOtherStall 7 = .ok (.iconst 0, 1) := by decide +kernel
theorem dX3_takeOtherStall_8 : decode cX3_takeOtherStall 8 = .ok (.ireturn, 1) := by decide +kernel
theorem dX3_takeOtherStall_9 : decode cX3_takeOtherStall 9 = .ok (.aload_n 0, 1) := by decide +kernel
theorem dX3_takeOtherStall_10 : decode cX3_takeOtherStall 10 = .ok (.iload_n 1, 1) := by decide +kernel
theorem dX3_takeOtherStall_11 : decode cX3_takeOtherStall 11 = .ok (.bipush 48, 2) := by decide +kernel
theorem dX3_takeOtherStall_13 : decode cX3_takeOtherStall 13 = .ok (.isub, 1) := by decide +kernel
theorem dX3_takeOtherStall_14 : decode cX3_takeOtherStall 14 = .ok (.putfield 54, 3) := by decide +kernel
theorem dX3_takeOtherStall_17 : decode cX3_takeOtherStall 17 = .ok (.aload_n 0, 1) := by decide +kernel
theorem dX3_takeOtherStall_18 : decode cX3_takeOtherStall 18 = .ok (.iconst 5, 1) := by decide +kernel
theorem dX3_takeOtherStall_19 : decode cX3_takeOtherStall 19 = .ok (.putfield 11, 3) := by decide +kernel
theorem dX3_takeOtherStall_22 : decode cX3_takeOtherStall 22 = .ok (.iconst 1, 1) := by decide +kernel
theorem dX3_takeOtherStall_23 : decode cX3_takeOtherStall 23 = .ok (.ireturn, 1) := by decide +kernel
theorem dX3_takeFirstDigit_0 : decode cX3_takeFirstDigit 0 = .ok (.iload_n 1, 1) := by decide +kernel
theorem dX3_takeFirstDigit_1 : decode cX3_takeFirstDigit 1 = .ok (.invokestatic 57, 3) := by decide +kernel
theorem dX3_takeFirstDigit_4 : decode cX3_takeFirstDigit 4 = .ok (.ifCond .eq 14, 3) := by decide +kernel
theorem dX3_takeFirstDigit_7 : decode cX3_takeFirstDigit 7 = .ok (.iload_n 1, 1) := by decide +kernel
theorem dX3_takeFirstDigit_8 : decode cX3_takeFirstDigit 8 = .ok (.bipush 48, 2) := by decide +kernel
theorem dX3_takeFirstDigit_10 : decode cX3_takeFirstDigit 10 = .ok (.isub, 1) := by decide +kernel
theorem dX3_takeFirstDigit_11 : decode cX3_takeFirstDigit 11 = .ok (.aload_n 0, 1) := by decide +kernel
theorem dX3_takeFirstDigit_12 : decode cX3_takeFirstDigit 12 = .ok (.getfield 48, 3) := by decide +kernel
theorem dX3_takeFirstDigit_15 : decode cX3_takeFirstDigit 15 = .ok (.if_icmp .ge 5, 3) := by decide +kernel
theorem dX3_takeFirstDigit_18 : decode cX3_takeFirstDigit 18 = .ok (.iconst 0, 1) := by decide +kernel
theorem dX3_takeFirstDigit_19 : decode cX3_takeFirstDigit 19 = .ok (.ireturn, 1) := by decide +kernel
theorem dX3_takeFirstDigit_20 : decode cX3_takeFirstDigit 20 = .ok (.aload_n 0, 1) := by decide +kernel
theorem dX3_takeFirstDigit_21 : decode cX3_takeFirstDigit 21 = .ok (.iload_n 1, 1) := by decide +kernel
theorem dX3_takeFirstDigit_22 : decode cX3_takeFirstDigit 22 = .ok (.bipush 48, 2) := by decide +kernel
theorem dX3_takeFirstDigit_24 : decode cX3_takeFirstDigit 24 = .ok (.isub, 1) := by decide +kernel
theorem dX3_takeFirstDigit_25 : decode cX3_takeFirstDigit 25 = .ok (.putfield 54, 3) := by decide +kernel
theorem dX3_takeFirstDigit_28 : decode cX3_takeFirstDigit 28 = .ok (.aload_n 0, 1) := by decide +kernel
theorem dX3_takeFirstDigit_29 : decode cX3_takeFirstDigit 29 = .ok (.aload_n 0, 1) := by decide +kernel
theorem dX3_takeFirstDigit_30 : decode cX3_takeFirstDigit 30 = .ok (.getfield 54, 3) := by decide +kernel
theorem dX3_takeFirstDigit_33 : decode cX3_takeFirstDigit 33 = .ok (.ifCond .ne 7, 3) := by decide +kernel
theorem dX3_takeFirstDigit_36 : decode cX3_takeFirstDigit 36 = .ok (.iconst 5, 1) := by decide +kernel
theorem dX3_takeFirstDigit_37 : decode cX3_takeFirstDigit 37 = .ok (.goto 4, 3) := by decide +kernel
theorem dX3_takeFirstDigit_40 : decode cX3_takeFirstDigit 40 = .ok (.iconst 4, 1) := by decide +kernel
theorem dX3_takeFirstDigit_41 : decode cX3_takeFirstDigit 41 = .ok (.putfield 11, 3) := by decide +kernel
theorem dX3_takeFirstDigit_44 : decode cX3_takeFirstDigit 44 = .ok (.iconst 1, 1) := by decide +kernel
theorem dX3_takeFirstDigit_45 : decode cX3_takeFirstDigit 45 = .ok (.ireturn, 1) := by decide +kernel
theorem dX3_takeDigit_0 : decode cX3_takeDigit 0 = .ok (.iload_n 1, 1) := by decide +kernel
theorem dX3_takeDigit_1 : decode cX3_takeDigit 1 = .ok (.invokestatic 57, 3) := by decide +kernel
theorem dX3_takeDigit_4 : decode cX3_takeDigit 4 = .ok (.ifCond .eq 22, 3) := by decide +kernel
theorem dX3_takeDigit_7 : decode cX3_takeDigit 7 = .ok (.aload_n 0, 1) := by decide +kernel
theorem dX3_takeDigit_8 : decode cX3_takeDigit 8 = .ok (.getfield 54, 3) := by decide +kernel
theorem dX3_takeDigit_11 : decode cX3_takeDigit 11 = .ok (.bipush 10, 2) := by decide +kernel
theorem dX3_takeDigit_13 : decode cX3_takeDigit 13 = .ok (.imul, 1) := by decide +kernel
theorem dX3_takeDigit_14 : decode cX3_takeDigit 14 = .ok (.iload_n 1, 1) := by decide +kernel
theorem dX3_takeDigit_15 : decode cX3_takeDigit 15 = .ok (.iadd, 1) := by decide +kernel
theorem dX3_takeDigit_16 : decode cX3_takeDigit 16 = .ok (.bipush 48, 2) := by decide +kernel
theorem dX3_takeDigit_18 : decode cX3_takeDigit 18 = .ok (.isub, 1) := by decide +kernel
theorem dX3_takeDigit_19 : decode cX3_takeDigit 19 = .ok (.aload_n 0, 1) := by decide +kernel
theorem dX3_takeDigit_20 : decode cX3_takeDigit 20 = .ok (.getfield 51, 3) := by decide +kernel
theorem dX3_takeDigit_23 : decode cX3_takeDigit 23 = .ok (.if_icmp .le 5, 3) := by decide +kernel
theorem dX3_takeDigit_26 : decode cX3_takeDigit 26 = .ok (.iconst 0, 1) := by decide +kernel
theorem dX3_takeDigit_27 : decode cX3_takeDigit 27 = .ok (.ireturn, 1) := by decide +kernel
theorem dX3_takeDigit_28 : decode cX3_takeDigit 28 = .ok (.aload_n 0, 1) := by decide +kernel
theorem dX3_takeDigit_29 : decode cX3_takeDigit 29 = .ok (.aload_n 0, 1) := by decide +kernel
theorem dX3_takeDigit_30 : decode cX3_takeDigit 30 = .ok (.getfield 54, 3) := by decide +kernel
theorem dX3_takeDigit_33 : decode cX3_takeDigit 33 = .ok (.bipush 10, 2) := by decide +kernel
theorem dX3_takeDigit_35 : decode cX3_takeDigit 35 = .ok (.imul, 1) := by decide +kernel
theorem dX3_takeDigit_36 : decode cX3_takeDigit 36 = .ok (.iload_n 1, 1) := by decide +kernel
theorem dX3_takeDigit_37 : decode cX3_takeDigit 37 = .ok (.iadd, 1) := by decide +kernel
theorem dX3_takeDigit_38 : decode cX3_takeDigit 38 = .ok (.bipush 48, 2) := by decide +kernel
theorem dX3_takeDigit_40 : decode cX3_takeDigit 40 = .ok (.isub, 1) := by decide +kernel
theorem dX3_takeDigit_41 : decode cX3_takeDigit 41 = .ok (.putfield 54, 3) := by decide +kernel
theorem dX3_takeDigit_44 : decode cX3_takeDigit 44 = .ok (.iconst 1, 1) := by decide +kernel
theorem dX3_takeDigit_45 : decode cX3_takeDigit 45 = .ok (.ireturn, 1) := by decide +kernel
theorem dX3_takeSeparator_0 : decode cX3_takeSeparator 0 = .ok (.iload_n 1, 1) := by decide +kernel
theorem dX3_takeSeparator_1 : decode cX3_takeSeparator 1 = .ok (.bipush 59, 2) := by decide +kernel
theorem dX3_takeSeparator_3 : decode cX3_takeSeparator 3 = .ok (.if_icmp .eq 5, 3) := by decide +kernel
theorem dX3_takeSeparator_6 : decode cX3_takeSeparator 6 = .ok (.iconst 0, 1) := by decide +kernel
theorem dX3_takeSeparator_7 : decode cX3_takeSeparator 7 = .ok (.ireturn, 1) := by decide +kernel
theorem dX3_takeSeparator_8 : decode cX3_takeSeparator 8 = .ok (.aload_n 0, 1) := by decide +kernel
theorem dX3_takeSeparator_9 : decode cX3_takeSeparator 9 = .ok (.iconst 0, 1) := by decide +kernel
theorem dX3_takeSeparator_10 : decode cX3_takeSeparator 10 = .ok (.putfield 11, 3) := by decide +kernel
theorem dX3_takeSeparator_13 : decode cX3_takeSeparator 13 = .ok (.iconst 1, 1) := by decide +kernel
theorem dX3_takeSeparator_14 : decode cX3_takeSeparator 14 = .ok (.ireturn, 1) := by decide +kernel
theorem dX3_isStall_0 : decode cX3_isStall 0 = .ok (.iload_n 0, 1) := by decide +kernel
theorem dX3_isStall_1 : decode cX3_isStall 1 = .ok (.bipush 48, 2) := by decide +kernel
theorem dX3_isStall_3 : decode cX3_isStall 3 = .ok (.if_icmp .lt 13, 3) := by decide +kernel
theorem dX3_isStall_6 : decode cX3_isStall 6 = .ok (.iload_n 0, 1) := by decide +kernel
theorem dX3_isStall_7 : decode cX3_isStall 7 = .ok (.bipush 54, 2) := by decide +kernel
theorem dX3_isStall_9 : decode cX3_isStall 9 = .ok (.if_icmp .ge 7, 3) := by decide +kernel
theorem dX3_isStall_12 : decode cX3_isStall 12 = .ok (.iconst 1, 1) := by decide +kernel
theorem dX3_isStall_13 : decode cX3_isStall 13 = .ok (.goto 4, 3) := by decide +kernel
theorem dX3_isStall_16 : decode cX3_isStall 16 = .ok (.iconst 0, 1) := by decide +kernel
theorem dX3_isStall_17 : decode cX3_isStall 17 = .ok (.ireturn, 1) := by decide +kernel
theorem dX3_isDigit_0 : decode cX3_isDigit 0 = .ok (.iload_n 0, 1) := by decide +kernel
theorem dX3_isDigit_1 : decode cX3_isDigit 1 = .ok (.bipush 48, 2) := by decide +kernel
theorem dX3_isDigit_3 : decode cX3_isDigit 3 = .ok (.if_icmp .lt 13, 3) := by decide +kernel
theorem dX3_isDigit_6 : decode cX3_isDigit 6 = .ok (.iload_n 0, 1) := by decide +kernel
theorem dX3_isDigit_7 : decode cX3_isDigit 7 = .ok (.bipush 57, 2) := by decide +kernel
theorem dX3_isDigit_9 : decode cX3_isDigit 9 = .ok (.if_icmp .gt 7, 3) := by decide +kernel
theorem dX3_isDigit_12 : decode cX3_isDigit 12 = .ok (.iconst 1, 1) := by decide +kernel
theorem dX3_isDigit_13 : decode cX3_isDigit 13 = .ok (.goto 4, 3) := by decide +kernel
theorem dX3_isDigit_16 : decode cX3_isDigit 16 = .ok (.iconst 0, 1) := by decide +kernel
theorem dX3_isDigit_17 : decode cX3_isDigit 17 = .ok (.ireturn, 1) := by decide +kernel
theorem dX4_init_0 : decode cX4_init 0 = .ok (.aload_n 0, 1) := by decide +kernel
theorem dX4_init_1 : decode cX4_init 1 = .ok (.invokespecial 1, 3) := by decide +kernel
theorem dX4_init_4 : decode cX4_init 4 = .ok (.aload_n 0, 1) := by decide +kernel
theorem dX4_init_5 : decode cX4_init 5 = .ok (.iconst 4, 1) := by decide +kernel
theorem dX4_init_6 : decode cX4_init 6 = .ok (.newarray .int, 2) := by decide +kernel
theorem dX4_init_8 : decode cX4_init 8 = .ok (.putfield 7, 3) := by decide +kernel
theorem dX4_init_11 : decode cX4_init 11 = .ok (.aload_n 0, 1) := by decide +kernel
theorem dX4_init_12 : decode cX4_init 12 = .ok (.iconst 4, 1) := by decide +kernel
theorem dX4_init_13 : decode cX4_init 13 = .ok (.newarray .int, 2) := by decide +kernel
theorem dX4_init_15 : decode cX4_init 15 = .ok (.putfield 13, 3) := by decide +kernel
theorem dX4_init_18 : decode cX4_init 18 = .ok (.return_, 1) := by decide +kernel
theorem dX4_clear_0 : decode cX4_clear 0 = .ok (.aload_n 0, 1) := by decide +kernel
theorem dX4_clear_1 : decode cX4_clear 1 = .ok (.iconst 0, 1) := by decide +kernel
theorem dX4_clear_2 : decode cX4_clear 2 = .ok (.putfield 16, 3) := by decide +kernel
theorem dX4_clear_5 : decode cX4_clear 5 = .ok (.return_, 1) := by decide +kernel
theorem dX4_put_0 : decode cX4_put 0 = .ok (.iconst 0, 1) := by decide +kernel
theorem dX4_put_1 : decode cX4_put 1 = .ok (.istore_n 3, 1) := by decide +kernel
theorem dX4_put_2 : decode cX4_put 2 = .ok (.iload_n 3, 1) := by decide +kernel
theorem dX4_put_3 : decode cX4_put 3 = .ok (.aload_n 0, 1) := by decide +kernel
theorem dX4_put_4 : decode cX4_put 4 = .ok (.getfield 16, 3) := by decide +kernel
theorem dX4_put_7 : decode cX4_put 7 = .ok (.if_icmp .ge 48, 3) := by decide +kernel
theorem dX4_put_10 : decode cX4_put 10 = .ok (.iload_n 3, 1) := by decide +kernel
theorem dX4_put_11 : decode cX4_put 11 = .ok (.aload_n 0, 1) := by decide +kernel
theorem dX4_put_12 : decode cX4_put 12 = .ok (.getfield 7, 3) := by decide +kernel
theorem dX4_put_15 : decode cX4_put 15 = .ok (.arraylength, 1) := by decide +kernel
theorem dX4_put_16 : decode cX4_put 16 = .ok (.if_icmp .ge 39, 3) := by decide +kernel
theorem dX4_put_19 : decode cX4_put 19 = .ok (.iload_n 3, 1) := by decide +kernel
theorem dX4_put_20 : decode cX4_put 20 = .ok (.aload_n 0, 1) := by decide +kernel
theorem dX4_put_21 : decode cX4_put 21 = .ok (.getfield 13, 3) := by decide +kernel
theorem dX4_put_24 : decode cX4_put 24 = .ok (.arraylength, 1) := by decide +kernel
theorem dX4_put_25 : decode cX4_put 25 = .ok (.if_icmp .ge 30, 3) := by decide +kernel
theorem dX4_put_28 : decode cX4_put 28 = .ok (.aload_n 0, 1) := by decide +kernel
theorem dX4_put_29 : decode cX4_put 29 = .ok (.getfield 7, 3) := by decide +kernel
theorem dX4_put_32 : decode cX4_put 32 = .ok (.iload_n 3, 1) := by decide +kernel
theorem dX4_put_33 : decode cX4_put 33 = .ok (.iaload, 1) := by decide +kernel
theorem dX4_put_34 : decode cX4_put 34 = .ok (.iload_n 1, 1) := by decide +kernel
theorem dX4_put_35 : decode cX4_put 35 = .ok (.if_icmp .ne 14, 3) := by decide +kernel
theorem dX4_put_38 : decode cX4_put 38 = .ok (.aload_n 0, 1) := by decide +kernel
theorem dX4_put_39 : decode cX4_put 39 = .ok (.getfield 13, 3) := by decide +kernel
theorem dX4_put_42 : decode cX4_put 42 = .ok (.iload_n 3, 1) := by decide +kernel
theorem dX4_put_43 : decode cX4_put 43 = .ok (.dup2, 1) := by decide +kernel
theorem dX4_put_44 : decode cX4_put 44 = .ok (.iaload, 1) := by decide +kernel
theorem dX4_put_45 : decode cX4_put 45 = .ok (.iload_n 2, 1) := by decide +kernel
theorem dX4_put_46 : decode cX4_put 46 = .ok (.iadd, 1) := by decide +kernel
theorem dX4_put_47 : decode cX4_put 47 = .ok (.iastore, 1) := by decide +kernel
theorem dX4_put_48 : decode cX4_put 48 = .ok (.return_, 1) := by decide +kernel
theorem dX4_put_49 : decode cX4_put 49 = .ok (.iinc 3 1, 3) := by decide +kernel
theorem dX4_put_52 : decode cX4_put 52 = .ok (.goto (-50), 3) := by decide +kernel
theorem dX4_put_55 : decode cX4_put 55 = .ok (.aload_n 0, 1) := by decide +kernel
theorem dX4_put_56 : decode cX4_put 56 = .ok (.getfield 16, 3) := by decide +kernel
theorem dX4_put_59 : decode cX4_put 59 = .ok (.ifCond .lt 57, 3) := by decide +kernel
theorem dX4_put_62 : decode cX4_put 62 = .ok (.aload_n 0, 1) := by decide +kernel
theorem dX4_put_63 : decode cX4_put 63 = .ok (.getfield 16, 3) := by decide +kernel
theorem dX4_put_66 : decode cX4_put 66 = .ok (.aload_n 0, 1) := by decide +kernel
theorem dX4_put_67 : decode cX4_put 67 = .ok (.getfield 7, 3) := by decide +kernel
theorem dX4_put_70 : decode cX4_put 70 = .ok (.arraylength, 1) := by decide +kernel
theorem dX4_put_71 : decode cX4_put 71 = .ok (.if_icmp .ge 45, 3) := by decide +kernel
theorem dX4_put_74 : decode cX4_put 74 = .ok (.aload_n 0, 1) := by decide +kernel
theorem dX4_put_75 : decode cX4_put 75 = .ok (.getfield 16, 3) := by decide +kernel
theorem dX4_put_78 : decode cX4_put 78 = .ok (.aload_n 0, 1) := by decide +kernel
theorem dX4_put_79 : decode cX4_put 79 = .ok (.getfield 13, 3) := by decide +kernel
theorem dX4_put_82 : decode cX4_put 82 = .ok (.arraylength, 1) := by decide +kernel
theorem dX4_put_83 : decode cX4_put 83 = .ok (.if_icmp .ge 33, 3) := by decide +kernel
theorem dX4_put_86 : decode cX4_put 86 = .ok (.aload_n 0, 1) := by decide +kernel
theorem dX4_put_87 : decode cX4_put 87 = .ok (.getfield 7, 3) := by decide +kernel
theorem dX4_put_90 : decode cX4_put 90 = .ok (.aload_n 0, 1) := by decide +kernel
theorem dX4_put_91 : decode cX4_put 91 = .ok (.getfield 16, 3) := by decide +kernel
theorem dX4_put_94 : decode cX4_put 94 = .ok (.iload_n 1, 1) := by decide +kernel
theorem dX4_put_95 : decode cX4_put 95 = .ok (.iastore, 1) := by decide +kernel
theorem dX4_put_96 : decode cX4_put 96 = .ok (.aload_n 0, 1) := by decide +kernel
theorem dX4_put_97 : decode cX4_put 97 = .ok (.getfield 13, 3) := by decide +kernel
theorem dX4_put_100 : decode cX4_put 100 = .ok (.aload_n 0, 1) := by decide +kernel
theorem dX4_put_101 : decode cX4_put 101 = .ok (.getfield 16, 3) := by decide +kernel
theorem dX4_put_104 : decode cX4_put 104 = .ok (.iload_n 2, 1) := by decide +kernel
theorem dX4_put_105 : decode cX4_put 105 = .ok (.iastore, 1) := by decide +kernel
theorem dX4_put_106 : decode cX4_put 106 = .ok (.aload_n 0, 1) := by decide +kernel
theorem dX4_put_107 : decode cX4_put 107 = .ok (.dup, 1) := by decide +kernel
theorem dX4_put_108 : decode cX4_put 108 = .ok (.getfield 16, 3) := by decide +kernel
theorem dX4_put_111 : decode cX4_put 111 = .ok (.iconst 1, 1) := by decide +kernel
theorem dX4_put_112 : decode cX4_put 112 = .ok (.iadd, 1) := by decide +kernel
theorem dX4_put_113 : decode cX4_put 113 = .ok (.putfield 16, 3) := by decide +kernel
theorem dX4_put_116 : decode cX4_put 116 = .ok (.return_, 1) := by decide +kernel
theorem dX4_goOn_0 : decode cX4_goOn 0 = .ok (.iconst 0, 1) := by decide +kernel
theorem dX4_goOn_1 : decode cX4_goOn 1 = .ok (.istore_n 3, 1) := by decide +kernel
theorem dX4_goOn_2 : decode cX4_goOn 2 = .ok (.iload_n 3, 1) := by decide +kernel
theorem dX4_goOn_3 : decode cX4_goOn 3 = .ok (.aload_n 0, 1) := by decide +kernel
theorem dX4_goOn_4 : decode cX4_goOn 4 = .ok (.getfield 16, 3) := by decide +kernel
theorem dX4_goOn_7 : decode cX4_goOn 7 = .ok (.if_icmp .ge 95, 3) := by decide +kernel
theorem dX4_goOn_10 : decode cX4_goOn 10 = .ok (.iload_n 3, 1) := by decide +kernel
theorem dX4_goOn_11 : decode cX4_goOn 11 = .ok (.aload_n 0, 1) := by decide +kernel
theorem dX4_goOn_12 : decode cX4_goOn 12 = .ok (.getfield 7, 3) := by decide +kernel
theorem dX4_goOn_15 : decode cX4_goOn 15 = .ok (.arraylength, 1) := by decide +kernel
theorem dX4_goOn_16 : decode cX4_goOn 16 = .ok (.if_icmp .ge 86, 3) := by decide +kernel
theorem dX4_goOn_19 : decode cX4_goOn 19 = .ok (.iload_n 3, 1) := by decide +kernel
theorem dX4_goOn_20 : decode cX4_goOn 20 = .ok (.aload_n 0, 1) := by decide +kernel
theorem dX4_goOn_21 : decode cX4_goOn 21 = .ok (.getfield 13, 3) := by decide +kernel
theorem dX4_goOn_24 : decode cX4_goOn 24 = .ok (.arraylength, 1) := by decide +kernel
theorem dX4_goOn_25 : decode cX4_goOn 25 = .ok (.if_icmp .ge 77, 3) := by decide +kernel
theorem dX4_goOn_28 : decode cX4_goOn 28 = .ok (.aload_n 0, 1) := by decide +kernel
theorem dX4_goOn_29 : decode cX4_goOn 29 = .ok (.getfield 7, 3) := by decide +kernel
theorem dX4_goOn_32 : decode cX4_goOn 32 = .ok (.iload_n 3, 1) := by decide +kernel
theorem dX4_goOn_33 : decode cX4_goOn 33 = .ok (.iaload, 1) := by decide +kernel
theorem dX4_goOn_34 : decode cX4_goOn 34 = .ok (.iload_n 1, 1) := by decide +kernel
theorem dX4_goOn_35 : decode cX4_goOn 35 = .ok (.invokestatic 20, 3) := by decide +kernel
theorem dX4_goOn_38 : decode cX4_goOn 38 = .ok (.if_icmp .gt 19, 3) := by decide +kernel
theorem dX4_goOn_41 : decode cX4_goOn 41 = .ok (.aload_n 2, 1) := by decide +kernel
theorem dX4_goOn_42 : decode cX4_goOn 42 = .ok (.aload_n 0, 1) := by decide +kernel
theorem dX4_goOn_43 : decode cX4_goOn 43 = .ok (.getfield 7, 3) := by decide +kernel
theorem dX4_goOn_46 : decode cX4_goOn 46 = .ok (.iload_n 3, 1) := by decide +kernel
theorem dX4_goOn_47 : decode cX4_goOn 47 = .ok (.iaload, 1) := by decide +kernel
theorem dX4_goOn_48 : decode cX4_goOn 48 = .ok (.aload_n 0, 1) := by decide +kernel
theorem dX4_goOn_49 : decode cX4_goOn 49 = .ok (.getfield 13, 3) := by decide +kernel
theorem dX4_goOn_52 : decode cX4_goOn 52 = .ok (.iload_n 3, 1) := by decide +kernel
theorem dX4_goOn_53 : decode cX4_goOn 53 = .ok (.iaload, 1) := by decide +kernel
theorem dX4_goOn_54 : decode cX4_goOn 54 = .ok (.invokevirtual 26, 3) := by decide +kernel
theorem dX4_goOn_57 : decode cX4_goOn 57 = .ok (.aload_n 0, 1) := by decide +kernel
theorem dX4_goOn_58 : decode cX4_goOn 58 = .ok (.getfield 7, 3) := by decide +kernel
theorem dX4_goOn_61 : decode cX4_goOn 61 = .ok (.iload_n 3, 1) := by decide +kernel
theorem dX4_goOn_62 : decode cX4_goOn 62 = .ok (.iaload, 1) := by decide +kernel
theorem dX4_goOn_63 : decode cX4_goOn 63 = .ok (.iload_n 1, 1) := by decide +kernel
theorem dX4_goOn_64 : decode cX4_goOn 64 = .ok (.invokestatic 30, 3) := by decide +kernel
theorem dX4_goOn_67 : decode cX4_goOn 67 = .ok (.isub, 1) := by decide +kernel
theorem dX4_goOn_68 : decode cX4_goOn 68 = .ok (.istore 4, 2) := by decide +kernel
theorem dX4_goOn_70 : decode cX4_goOn 70 = .ok (.iload 4, 2) := by decide +kernel
theorem dX4_goOn_72 : decode cX4_goOn 72 = .ok (.ifCond .lt 24, 3) := by decide +kernel
theorem dX4_goOn_75 : decode cX4_goOn 75 = .ok (.iload 4, 2) := by decide +kernel
theorem dX4_goOn_77 : decode cX4_goOn 77 = .ok (.iload_n 1, 1) := by decide +kernel
theorem dX4_goOn_78 : decode cX4_goOn 78 = .ok (.invokestatic 20, 3) := by decide +kernel
theorem dX4_goOn_81 : decode cX4_goOn 81 = .ok (.if_icmp .gt 15, 3) := by decide +kernel
theorem dX4_goOn_84 : decode cX4_goOn 84 = .ok (.aload_n 2, 1) := by decide +kernel
theorem dX4_goOn_85 : decode cX4_goOn 85 = .ok (.iload 4, 2) := by decide +kernel
theorem dX4_goOn_87 : decode cX4_goOn 87 = .ok (.aload_n 0, 1) := by decide +kernel
theorem dX4_goOn_88 : decode cX4_goOn 88 = .ok (.getfield 13, 3) := by decide +kernel
theorem dX4_goOn_91 : decode cX4_goOn 91 = .ok (.iload_n 3, 1) := by decide +kernel
theorem dX4_goOn_92 : decode cX4_goOn 92 = .ok (.iaload, 1) := by decide +kernel
theorem dX4_goOn_93 : decode cX4_goOn 93 = .ok (.invokevirtual 26, 3) := by decide +kernel
theorem dX4_goOn_96 : decode cX4_goOn 96 = .ok (.iinc 3 1, 3) := by decide +kernel
theorem dX4_goOn_99 : decode cX4_goOn 99 = .ok (.goto (-97), 3) := by decide +kernel
theorem dX4_goOn_102 : decode cX4_goOn 102 = .ok (.return_, 1) := by decide +kernel
theorem dX4_countOf_0 : decode cX4_countOf 0 = .ok (.iconst 0, 1) := by decide +kernel
theorem dX4_countOf_1 : decode cX4_countOf 1 = .ok (.istore_n 2, 1) := by decide +kernel
theorem dX4_countOf_2 : decode cX4_countOf 2 = .ok (.iload_n 2, 1) := by decide +kernel
theorem dX4_countOf_3 : decode cX4_countOf 3 = .ok (.aload_n 0, 1) := by decide +kernel
theorem dX4_countOf_4 : decode cX4_countOf 4 = .ok (.getfield 16, 3) := by decide +kernel
theorem dX4_countOf_7 : decode cX4_countOf 7 = .ok (.if_icmp .ge 44, 3) := by decide +kernel
theorem dX4_countOf_10 : decode cX4_countOf 10 = .ok (.iload_n 2, 1) := by decide +kernel
theorem dX4_countOf_11 : decode cX4_countOf 11 = .ok (.aload_n 0, 1) := by decide +kernel
theorem dX4_countOf_12 : decode cX4_countOf 12 = .ok (.getfield 7, 3) := by decide +kernel
theorem dX4_countOf_15 : decode cX4_countOf 15 = .ok (.arraylength, 1) := by decide +kernel
theorem dX4_countOf_16 : decode cX4_countOf 16 = .ok (.if_icmp .ge 35, 3) := by decide +kernel
theorem dX4_countOf_19 : decode cX4_countOf 19 = .ok (.iload_n 2, 1) := by decide +kernel
theorem dX4_countOf_20 : decode cX4_countOf 20 = .ok (.aload_n 0, 1) := by decide +kernel
theorem dX4_countOf_21 : decode cX4_countOf 21 = .ok (.getfield 13, 3) := by decide +kernel
theorem dX4_countOf_24 : decode cX4_countOf 24 = .ok (.arraylength, 1) := by decide +kernel
theorem dX4_countOf_25 : decode cX4_countOf 25 = .ok (.if_icmp .ge 26, 3) := by decide +kernel
theorem dX4_countOf_28 : decode cX4_countOf 28 = .ok (.aload_n 0, 1) := by decide +kernel
theorem dX4_countOf_29 : decode cX4_countOf 29 = .ok (.getfield 7, 3) := by decide +kernel
theorem dX4_countOf_32 : decode cX4_countOf 32 = .ok (.iload_n 2, 1) := by decide +kernel
theorem dX4_countOf_33 : decode cX4_countOf 33 = .ok (.iaload, 1) := by decide +kernel
theorem dX4_countOf_34 : decode cX4_countOf 34 = .ok (.iload_n 1, 1) := by decide +kernel
theorem dX4_countOf_35 : decode cX4_countOf 35 = .ok (.if_icmp .ne 10, 3) := by decide +kernel
theorem dX4_countOf_38 : decode cX4_countOf 38 = .ok (.aload_n 0, 1) := by decide +kernel
theorem dX4_countOf_39 : decode cX4_countOf 39 = .ok (.getfield 13, 3) := by decide +kernel
theorem dX4_countOf_42 : decode cX4_countOf 42 = .ok (.iload_n 2, 1) := by decide +kernel
theorem dX4_countOf_43 : decode cX4_countOf 43 = .ok (.iaload, 1) := by decide +kernel
theorem dX4_countOf_44 : decode cX4_countOf 44 = .ok (.ireturn, 1) := by decide +kernel
theorem dX4_countOf_45 : decode cX4_countOf 45 = .ok (.iinc 2 1, 3) := by decide +kernel
theorem dX4_countOf_48 : decode cX4_countOf 48 = .ok (.goto (-46), 3) := by decide +kernel
theorem dX4_countOf_51 : decode cX4_countOf 51 = .ok (.iconst 0, 1) := by decide +kernel
theorem dX4_countOf_52 : decode cX4_countOf 52 = .ok (.ireturn, 1) := by decide +kernel
theorem dX5_init_0 : decode cX5_init 0 = .ok (.aload_n 0, 1) := by decide +kernel
theorem dX5_init_1 : decode cX5_init 1 = .ok (.invokespecial 1, 3) := by decide +kernel
theorem dX5_init_4 : decode cX5_init 4 = .ok (.aload_n 0, 1) := by decide +kernel
theorem dX5_init_5 : decode cX5_init 5 = .ok (.new 7, 3) := by decide +kernel
theorem dX5_init_8 : decode cX5_init 8 = .ok (.dup, 1) := by decide +kernel
theorem dX5_init_9 : decode cX5_init 9 = .ok (.invokespecial 9, 3) := by decide +kernel
theorem dX5_init_12 : decode cX5_init 12 = .ok (.putfield 10, 3) := by decide +kernel
theorem dX5_init_15 : decode cX5_init 15 = .ok (.aload_n 0, 1) := by decide +kernel
theorem dX5_init_16 : decode cX5_init 16 = .ok (.new 7, 3) := by decide +kernel
theorem dX5_init_19 : decode cX5_init 19 = .ok (.dup, 1) := by decide +kernel
theorem dX5_init_20 : decode cX5_init 20 = .ok (.invokespecial 9, 3) := by decide +kernel
theorem dX5_init_23 : decode cX5_init 23 = .ok (.putfield 16, 3) := by decide +kernel
theorem dX5_init_26 : decode cX5_init 26 = .ok (.aload_n 0, 1) := by decide +kernel
theorem dX5_init_27 : decode cX5_init 27 = .ok (.iconst 5, 1) := by decide +kernel
theorem dX5_init_28 : decode cX5_init 28 = .ok (.anewarray 7, 3) := by decide +kernel
theorem dX5_init_31 : decode cX5_init 31 = .ok (.putfield 19, 3) := by decide +kernel
theorem dX5_init_34 : decode cX5_init 34 = .ok (.aload_n 0, 1) := by decide +kernel
theorem dX5_init_35 : decode cX5_init 35 = .ok (.bipush 60, 2) := by decide +kernel
theorem dX5_init_37 : decode cX5_init 37 = .ok (.newarray .char, 2) := by decide +kernel
theorem dX5_init_39 : decode cX5_init 39 = .ok (.putfield 23, 3) := by decide +kernel
theorem dX5_init_42 : decode cX5_init 42 = .ok (.aload_n 0, 1) := by decide +kernel
theorem dX5_init_43 : decode cX5_init 43 = .ok (.new 27, 3) := by decide +kernel
theorem dX5_init_46 : decode cX5_init 46 = .ok (.dup, 1) := by decide +kernel
theorem dX5_init_47 : decode cX5_init 47 = .ok (.invokespecial 29, 3) := by decide +kernel
theorem dX5_init_50 : decode cX5_init 50 = .ok (.putfield 30, 3) := by decide +kernel
theorem dX5_init_53 : decode cX5_init 53 = .ok (.aload_n 0, 1) := by decide +kernel
theorem dX5_init_54 : decode cX5_init 54 = .ok (.new 34, 3) := by decide +kernel
theorem dX5_init_57 : decode cX5_init 57 = .ok (.dup, 1) := by decide +kernel
theorem dX5_init_58 : decode cX5_init 58 = .ok (.invokespecial 36, 3) := by decide +kernel
theorem dX5_init_61 : decode cX5_init 61 = .ok (.putfield 37, 3) := by decide +kernel
theorem dX5_init_64 : decode cX5_init 64 = .ok (.aload_n 0, 1) := by decide +kernel
theorem dX5_init_65 : decode cX5_init 65 = .ok (.new 41, 3) := by decide +kernel
theorem dX5_init_68 : decode cX5_init 68 = .ok (.dup, 1) := by decide +kernel
theorem dX5_init_69 : decode cX5_init 69 = .ok (.invokespecial 43, 3) := by decide +kernel
theorem dX5_init_72 : decode cX5_init 72 = .ok (.putfield 44, 3) := by decide +kernel
theorem dX5_init_75 : decode cX5_init 75 = .ok (.aload_n 0, 1) := by decide +kernel
theorem dX5_init_76 : decode cX5_init 76 = .ok (.new 48, 3) := by decide +kernel
theorem dX5_init_79 : decode cX5_init 79 = .ok (.dup, 1) := by decide +kernel
theorem dX5_init_80 : decode cX5_init 80 = .ok (.invokespecial 50, 3) := by decide +kernel
theorem dX5_init_83 : decode cX5_init 83 = .ok (.putfield 51, 3) := by decide +kernel
theorem dX5_init_86 : decode cX5_init 86 = .ok (.aload_n 0, 1) := by decide +kernel
theorem dX5_init_87 : decode cX5_init 87 = .ok (.new 48, 3) := by decide +kernel
theorem dX5_init_90 : decode cX5_init 90 = .ok (.dup, 1) := by decide +kernel
theorem dX5_init_91 : decode cX5_init 91 = .ok (.invokespecial 50, 3) := by decide +kernel
theorem dX5_init_94 : decode cX5_init 94 = .ok (.putfield 55, 3) := by decide +kernel
theorem dX5_init_97 : decode cX5_init 97 = .ok (.iconst 0, 1) := by decide +kernel
theorem dX5_init_98 : decode cX5_init 98 = .ok (.istore_n 1, 1) := by decide +kernel
theorem dX5_init_99 : decode cX5_init 99 = .ok (.iload_n 1, 1) := by decide +kernel
theorem dX5_init_100 : decode cX5_init 100 = .ok (.aload_n 0, 1) := by decide +kernel
theorem dX5_init_101 : decode cX5_init 101 = .ok (.getfield 19, 3) := by decide +kernel
theorem dX5_init_104 : decode cX5_init 104 = .ok (.arraylength, 1) := by decide +kernel
theorem dX5_init_105 : decode cX5_init 105 = .ok (.if_icmp .ge 22, 3) := by decide +kernel
theorem dX5_init_108 : decode cX5_init 108 = .ok (.aload_n 0, 1) := by decide +kernel
theorem dX5_init_109 : decode cX5_init 109 = .ok (.getfield 19, 3) := by decide +kernel
theorem dX5_init_112 : decode cX5_init 112 = .ok (.iload_n 1, 1) := by decide +kernel
theorem dX5_init_113 : decode cX5_init 113 = .ok (.new 7, 3) := by decide +kernel
theorem dX5_init_116 : decode cX5_init 116 = .ok (.dup, 1) := by decide +kernel
theorem dX5_init_117 : decode cX5_init 117 = .ok (.invokespecial 9, 3) := by decide +kernel
theorem dX5_init_120 : decode cX5_init 120 = .ok (.aastore, 1) := by decide +kernel
theorem dX5_init_121 : decode cX5_init 121 = .ok (.iinc 1 1, 3) := by decide +kernel
theorem dX5_init_124 : decode cX5_init 124 = .ok (.goto (-25), 3) := by decide +kernel
theorem dX5_init_127 : decode cX5_init 127 = .ok (.return_, 1) := by decide +kernel
theorem dX5_set_0 : decode cX5_set 0 = .ok (.iload_n 1, 1) := by decide +kernel
theorem dX5_set_1 : decode cX5_set 1 = .ok (.invokestatic 58, 3) := by decide +kernel
theorem dX5_set_4 : decode cX5_set 4 = .ok (.iload_n 2, 1) := by decide +kernel
theorem dX5_set_5 : decode cX5_set 5 = .ok (.invokestatic 62, 3) := by decide +kernel
theorem dX5_set_8 : decode cX5_set 8 = .ok (.aload_n 0, 1) := by decide +kernel
theorem dX5_set_9 : decode cX5_set 9 = .ok (.getfield 10, 3) := by decide +kernel
theorem dX5_set_12 : decode cX5_set 12 = .ok (.iload_n 1, 1) := by decide +kernel
theorem dX5_set_13 : decode cX5_set 13 = .ok (.invokevirtual 65, 3) := by decide +kernel
theorem dX5_set_16 : decode cX5_set 16 = .ok (.istore_n 3, 1) := by decide +kernel
theorem dX5_set_17 : decode cX5_set 17 = .ok (.aload_n 0, 1) := by decide +kernel
theorem dX5_set_18 : decode cX5_set 18 = .ok (.invokevirtual 69, 3) := by decide +kernel
theorem dX5_set_21 : decode cX5_set 21 = .ok (.aload_n 0, 1) := by decide +kernel
theorem dX5_set_22 : decode cX5_set 22 = .ok (.getfield 10, 3) := by decide +kernel
theorem dX5_set_25 : decode cX5_set 25 = .ok (.iload_n 1, 1) := by decide +kernel
theorem dX5_set_26 : decode cX5_set 26 = .ok (.iload_n 2, 1) := by decide +kernel
theorem dX5_set_27 : decode cX5_set 27 = .ok (.invokevirtual 72, 3) := by decide +kernel
theorem dX5_set_30 : decode cX5_set 30 = .ok (.iload_n 3, 1) := by decide +kernel
theorem dX5_set_31 : decode cX5_set 31 = .ok (.ireturn, 1) := by decide +kernel
theorem dX5_add_0 : decode cX5_add 0 = .ok (.iload_n 1, 1) := by decide +kernel
theorem dX5_add_1 : decode cX5_add 1 = .ok (.invokestatic 58, 3) := by decide +kernel
theorem dX5_add_4 : decode cX5_add 4 = .ok (.iload_n 2, 1) := by decide +kernel
theorem dX5_add_5 : decode cX5_add 5 = .ok (.invokestatic 58, 3) := by decide +kernel
theorem dX5_add_8 : decode cX5_add 8 = .ok (.aload_n 0, 1) := by decide +kernel
theorem dX5_add_9 : decode cX5_add 9 = .ok (.getfield 10, 3) := by decide +kernel
theorem dX5_add_12 : decode cX5_add 12 = .ok (.iload_n 1, 1) := by decide +kernel
theorem dX5_add_13 : decode cX5_add 13 = .ok (.invokevirtual 65, 3) := by decide +kernel
theorem dX5_add_16 : decode cX5_add 16 = .ok (.aload_n 0, 1) := by decide +kernel
theorem dX5_add_17 : decode cX5_add 17 = .ok (.getfield 10, 3) := by decide +kernel
theorem dX5_add_20 : decode cX5_add 20 = .ok (.iload_n 2, 1) := by decide +kernel
theorem dX5_add_21 : decode cX5_add 21 = .ok (.invokevirtual 65, 3) := by decide +kernel
theorem dX5_add_24 : decode cX5_add 24 = .ok (.iadd, 1) := by decide +kernel
theorem dX5_add_25 : decode cX5_add 25 = .ok (.istore_n 3, 1) := by decide +kernel
theorem dX5_add_26 : decode cX5_add 26 = .ok (.iload_n 3, 1) := by decide +kernel
theorem dX5_add_27 : decode cX5_add 27 = .ok (.sipush 6764, 3) := by decide +kernel
theorem dX5_add_30 : decode cX5_add 30 = .ok (.if_icmp .le 13, 3) := by decide +kernel
theorem dX5_add_33 : decode cX5_add 33 = .ok (.new 76, 3) := by decide +kernel
theorem dX5_add_36 : decode cX5_add 36 = .ok (.dup, 1) := by decide +kernel
theorem dX5_add_37 : decode cX5_add 37 = .ok (.ldc 78, 2) := by decide +kernel
theorem dX5_add_39 : decode cX5_add 39 = .ok (.invokespecial 80, 3) := by decide +kernel
theorem dX5_add_42 : decode cX5_add 42 = .ok (.athrow, 1) := by decide +kernel
theorem dX5_add_43 : decode cX5_add 43 = .ok (.aload_n 0, 1) := by decide +kernel
theorem dX5_add_44 : decode cX5_add 44 = .ok (.iload_n 1, 1) := by decide +kernel
theorem dX5_add_45 : decode cX5_add 45 = .ok (.iload_n 2, 1) := by decide +kernel
theorem dX5_add_46 : decode cX5_add 46 = .ok (.invokevirtual 83, 3) := by decide +kernel
theorem dX5_add_49 : decode cX5_add 49 = .ok (.istore 4, 2) := by decide +kernel
theorem dX5_add_51 : decode cX5_add 51 = .ok (.aload_n 0, 1) := by decide +kernel
theorem dX5_add_52 : decode cX5_add 52 = .ok (.invokevirtual 69, 3) := by decide +kernel
theorem dX5_add_55 : decode cX5_add 55 = .ok (.aload_n 0, 1) := by decide +kernel
theorem dX5_add_56 : decode cX5_add 56 = .ok (.getfield 10, 3) := by decide +kernel
theorem dX5_add_59 : decode cX5_add 59 = .ok (.iload_n 1, 1) := by decide +kernel
theorem dX5_add_60 : decode cX5_add 60 = .ok (.iload_n 3, 1) := by decide +kernel
theorem dX5_add_61 : decode cX5_add 61 = .ok (.invokevirtual 72, 3) := by decide +kernel
theorem dX5_add_64 : decode cX5_add 64 = .ok (.iload 4, 2) := by decide +kernel
theorem dX5_add_66 : decode cX5_add 66 = .ok (.ireturn, 1) := by decide +kernel
theorem dX5_takeAway_0 : decode cX5_takeAway 0 = .ok (.iload_n 1, 1) := by decide +kernel
theorem dX5_takeAway_1 : decode cX5_takeAway 1 = .ok (.invokestatic 58, 3) := by decide +kernel
theorem dX5_takeAway_4 : decode cX5_takeAway 4 = .ok (.iload_n 2, 1) := by decide +kernel
theorem dX5_takeAway_5 : decode cX5_takeAway 5 = .ok (.invokestatic 58, 3) := by decide +kernel
theorem dX5_takeAway_8 : decode cX5_takeAway 8 = .ok (.aload_n 0, 1) := by decide +kernel
theorem dX5_takeAway_9 : decode cX5_takeAway 9 = .ok (.getfield 10, 3) := by decide +kernel
theorem dX5_takeAway_12 : decode cX5_takeAway 12 = .ok (.iload_n 1, 1) := by decide +kernel
theorem dX5_takeAway_13 : decode cX5_takeAway 13 = .ok (.invokevirtual 65, 3) := by decide +kernel
theorem dX5_takeAway_16 : decode cX5_takeAway 16 = .ok (.aload_n 0, 1) := by decide +kernel
theorem dX5_takeAway_17 : decode cX5_takeAway 17 = .ok (.getfield 10, 3) := by decide +kernel
theorem dX5_takeAway_20 : decode cX5_takeAway 20 = .ok (.iload_n 2, 1) := by decide +kernel
theorem dX5_takeAway_21 : decode cX5_takeAway 21 = .ok (.invokevirtual 65, 3) := by decide +kernel
theorem dX5_takeAway_24 : decode cX5_takeAway 24 = .ok (.isub, 1) := by decide +kernel
theorem dX5_takeAway_25 : decode cX5_takeAway 25 = .ok (.istore_n 3, 1) := by decide +kernel
theorem dX5_takeAway_26 : decode cX5_takeAway 26 = .ok (.iload_n 3, 1) := by decide +kernel
theorem dX5_takeAway_27 : decode cX5_takeAway 27 = .ok (.ifCond .ge 13, 3) := by decide +kernel
theorem dX5_takeAway_30 : decode cX5_takeAway 30 = .ok (.new 76, 3) := by decide +kernel
theorem dX5_takeAway_33 : decode cX5_takeAway 33 = .ok (.dup, 1) := by decide +kernel
theorem dX5_takeAway_34 : decode cX5_takeAway 34 = .ok (.ldc 87, 2) := by decide +kernel
theorem dX5_takeAway_36 : decode cX5_takeAway 36 = .ok (.invokespecial 80, 3) := by decide +kernel
theorem dX5_takeAway_39 : decode cX5_takeAway 39 = .ok (.athrow, 1) := by decide +kernel
theorem dX5_takeAway_40 : decode cX5_takeAway 40 = .ok (.aload_n 0, 1) := by decide +kernel
theorem dX5_takeAway_41 : decode cX5_takeAway 41 = .ok (.invokevirtual 69, 3) := by decide +kernel
theorem dX5_takeAway_44 : decode cX5_takeAway 44 = .ok (.aload_n 0, 1) := by decide +kernel
theorem dX5_takeAway_45 : decode cX5_takeAway 45 = .ok (.getfield 10, 3) := by decide +kernel
theorem dX5_takeAway_48 : decode cX5_takeAway 48 = .ok (.iload_n 1, 1) := by decide +kernel
theorem dX5_takeAway_49 : decode cX5_takeAway 49 = .ok (.iload_n 3, 1) := by decide +kernel
theorem dX5_takeAway_50 : decode cX5_takeAway 50 = .ok (.invokevirtual 72, 3) := by decide +kernel
theorem dX5_takeAway_53 : decode cX5_takeAway 53 = .ok (.iload_n 3, 1) := by decide +kernel
theorem dX5_takeAway_54 : decode cX5_takeAway 54 = .ok (.ireturn, 1) := by decide +kernel
theorem dX5_raise_0 : decode cX5_raise 0 = .ok (.iload_n 1, 1) := by decide +kernel
theorem dX5_raise_1 : decode cX5_raise 1 = .ok (.invokestatic 58, 3) := by decide +kernel
theorem dX5_raise_4 : decode cX5_raise 4 = .ok (.aload_n 0, 1) := by decide +kernel
theorem dX5_raise_5 : decode cX5_raise 5 = .ok (.getfield 10, 3) := by decide +kernel
theorem dX5_raise_8 : decode cX5_raise 8 = .ok (.iload_n 1, 1) := by decide +kernel
theorem dX5_raise_9 : decode cX5_raise 9 = .ok (.invokevirtual 65, 3) := by decide +kernel
theorem dX5_raise_12 : decode cX5_raise 12 = .ok (.invokestatic 89, 3) := by decide +kernel
theorem dX5_raise_15 : decode cX5_raise 15 = .ok (.istore_n 2, 1) := by decide +kernel
theorem dX5_raise_16 : decode cX5_raise 16 = .ok (.iload_n 2, 1) := by decide +kernel
theorem dX5_raise_17 : decode cX5_raise 17 = .ok (.invokestatic 92, 3) := by decide +kernel
theorem dX5_raise_20 : decode cX5_raise 20 = .ok (.ifCond .ne 13, 3) := by decide +kernel
theorem dX5_raise_23 : decode cX5_raise 23 = .ok (.new 76, 3) := by decide +kernel
theorem dX5_raise_26 : decode cX5_raise 26 = .ok (.dup, 1) := by decide +kernel
theorem dX5_raise_27 : decode cX5_raise 27 = .ok (.ldc 96, 2) := by decide +kernel
theorem dX5_raise_29 : decode cX5_raise 29 = .ok (.invokespecial 80, 3) := by decide +kernel
theorem dX5_raise_32 : decode cX5_raise 32 = .ok (.athrow, 1) := by decide +kernel
theorem dX5_raise_33 : decode cX5_raise 33 = .ok (.aload_n 0, 1) := by decide +kernel
theorem dX5_raise_34 : decode cX5_raise 34 = .ok (.invokevirtual 69, 3) := by decide +kernel
theorem dX5_raise_37 : decode cX5_raise 37 = .ok (.aload_n 0, 1) := by decide +kernel
theorem dX5_raise_38 : decode cX5_raise 38 = .ok (.getfield 10, 3) := by decide +kernel
theorem dX5_raise_41 : decode cX5_raise 41 = .ok (.iload_n 1, 1) := by decide +kernel
theorem dX5_raise_42 : decode cX5_raise 42 = .ok (.iload_n 2, 1) := by decide +kernel
theorem dX5_raise_43 : decode cX5_raise 43 = .ok (.invokestatic 98, 3) := by decide +kernel
theorem dX5_raise_46 : decode cX5_raise 46 = .ok (.invokevirtual 72, 3) := by decide +kernel
theorem dX5_raise_49 : decode cX5_raise 49 = .ok (.aload_n 0, 1) := by decide +kernel
theorem dX5_raise_50 : decode cX5_raise 50 = .ok (.getfield 10, 3) := by decide +kernel
theorem dX5_raise_53 : decode cX5_raise 53 = .ok (.iload_n 1, 1) := by decide +kernel
theorem dX5_raise_54 : decode cX5_raise 54 = .ok (.invokevirtual 65, 3) := by decide +kernel
theorem dX5_raise_57 : decode cX5_raise 57 = .ok (.ireturn, 1) := by decide +kernel
theorem dX5_pay_0 : decode cX5_pay 0 = .ok (.iload_n 1, 1) := by decide +kernel
theorem dX5_pay_1 : decode cX5_pay 1 = .ok (.invokestatic 58, 3) := by decide +kernel
theorem dX5_pay_4 : decode cX5_pay 4 = .ok (.iload_n 2, 1) := by decide +kernel
theorem dX5_pay_5 : decode cX5_pay 5 = .ok (.invokestatic 58, 3) := by decide +kernel
theorem dX5_pay_8 : decode cX5_pay 8 = .ok (.iload_n 3, 1) := by decide +kernel
theorem dX5_pay_9 : decode cX5_pay 9 = .ok (.invokestatic 101, 3) := by decide +kernel
theorem dX5_pay_12 : decode cX5_pay 12 = .ok (.iload_n 1, 1) := by decide +kernel
theorem dX5_pay_13 : decode cX5_pay 13 = .ok (.iload_n 2, 1) := by decide +kernel
theorem dX5_pay_14 : decode cX5_pay 14 = .ok (.if_icmp .ne 13, 3) := by decide +kernel
theorem dX5_pay_17 : decode cX5_pay 17 = .ok (.new 104, 3) := by decide +kernel
theorem dX5_pay_20 : decode cX5_pay 20 = .ok (.dup, 1) := by decide +kernel
theorem dX5_pay_21 : decode cX5_pay 21 = .ok (.ldc 106, 2) := by decide +kernel
theorem dX5_pay_23 : decode cX5_pay 23 = .ok (.invokespecial 108, 3) := by decide +kernel
theorem dX5_pay_26 : decode cX5_pay 26 = .ok (.athrow, 1) := by decide +kernel
theorem dX5_pay_27 : decode cX5_pay 27 = .ok (.aload_n 0, 1) := by decide +kernel
theorem dX5_pay_28 : decode cX5_pay 28 = .ok (.getfield 10, 3) := by decide +kernel
theorem dX5_pay_31 : decode cX5_pay 31 = .ok (.iload_n 1, 1) := by decide +kernel
theorem dX5_pay_32 : decode cX5_pay 32 = .ok (.invokevirtual 65, 3) := by decide +kernel
theorem dX5_pay_35 : decode cX5_pay 35 = .ok (.iload_n 3, 1) := by decide +kernel
theorem dX5_pay_36 : decode cX5_pay 36 = .ok (.isub, 1) := by decide +kernel
theorem dX5_pay_37 : decode cX5_pay 37 = .ok (.istore 4, 2) := by decide +kernel
theorem dX5_pay_39 : decode cX5_pay 39 = .ok (.aload_n 0, 1) := by decide +kernel
theorem dX5_pay_40 : decode cX5_pay 40 = .ok (.getfield 10, 3) := by decide +kernel
theorem dX5_pay_43 : decode cX5_pay 43 = .ok (.iload_n 2, 1) := by decide +kernel
theorem dX5_pay_44 : decode cX5_pay 44 = .ok (.invokevirtual 65, 3) := by decide +kernel
theorem dX5_pay_47 : decode cX5_pay 47 = .ok (.iload_n 3, 1) := by decide +kernel
theorem dX5_pay_48 : decode cX5_pay 48 = .ok (.iadd, 1) := by decide +kernel
theorem dX5_pay_49 : decode cX5_pay 49 = .ok (.istore 5, 2) := by decide +kernel
theorem dX5_pay_51 : decode cX5_pay 51 = .ok (.iload 4, 2) := by decide +kernel
theorem dX5_pay_53 : decode cX5_pay 53 = .ok (.ifCond .lt 11, 3) := by decide +kernel
theorem dX5_pay_56 : decode cX5_pay 56 = .ok (.iload 5, 2) := by decide +kernel
theorem dX5_pay_58 : decode cX5_pay 58 = .ok (.sipush 6764, 3) := by decide +kernel
theorem dX5_pay_61 : decode cX5_pay 61 = .ok (.if_icmp .le 13, 3) := by decide +kernel
theorem dX5_pay_64 : decode cX5_pay 64 = .ok (.new 76, 3) := by decide +kernel
theorem dX5_pay_67 : decode cX5_pay 67 = .ok (.dup, 1) := by decide +kernel
theorem dX5_pay_68 : decode cX5_pay 68 = .ok (.ldc 109, 2) := by decide +kernel
theorem dX5_pay_70 : decode cX5_pay 70 = .ok (.invokespecial 80, 3) := by decide +kernel
theorem dX5_pay_73 : decode cX5_pay 73 = .ok (.athrow, 1) := by decide +kernel
theorem dX5_pay_74 : decode cX5_pay 74 = .ok (.aload_n 0, 1) := by decide +kernel
theorem dX5_pay_75 : decode cX5_pay 75 = .ok (.invokevirtual 69, 3) := by decide +kernel
theorem dX5_pay_78 : decode cX5_pay 78 = .ok (.aload_n 0, 1) := by decide +kernel
theorem dX5_pay_79 : decode cX5_pay 79 = .ok (.getfield 10, 3) := by decide +kernel
theorem dX5_pay_82 : decode cX5_pay 82 = .ok (.iload_n 1, 1) := by decide +kernel
theorem dX5_pay_83 : decode cX5_pay 83 = .ok (.iload 4, 2) := by decide +kernel
theorem dX5_pay_85 : decode cX5_pay 85 = .ok (.invokevirtual 72, 3) := by decide +kernel
theorem dX5_pay_88 : decode cX5_pay 88 = .ok (.aload_n 0, 1) := by decide +kernel
theorem dX5_pay_89 : decode cX5_pay 89 = .ok (.getfield 10, 3) := by decide +kernel
theorem dX5_pay_92 : decode cX5_pay 92 = .ok (.iload_n 2, 1) := by decide +kernel
theorem dX5_pay_93 : decode cX5_pay 93 = .ok (.iload 5, 2) := by decide +kernel
theorem dX5_pay_95 : decode cX5_pay 95 = .ok (.invokevirtual 72, 3) := by decide +kernel
theorem dX5_pay_98 : decode cX5_pay 98 = .ok (.iload 4, 2) := by decide +kernel
theorem dX5_pay_100 : decode cX5_pay 100 = .ok (.ireturn, 1) := by decide +kernel
theorem dX5_send_0 : decode cX5_send 0 = .ok (.iload_n 1, 1) := by decide +kernel
theorem dX5_send_1 : decode cX5_send 1 = .ok (.invokestatic 101, 3) := by decide +kernel
theorem dX5_send_4 : decode cX5_send 4 = .ok (.aload_n 0, 1) := by decide +kernel
theorem dX5_send_5 : decode cX5_send 5 = .ok (.getfield 10, 3) := by decide +kernel
theorem dX5_send_8 : decode cX5_send 8 = .ok (.iload_n 1, 1) := by decide +kernel
theorem dX5_send_9 : decode cX5_send 9 = .ok (.invokevirtual 111, 3) := by decide +kernel
theorem dX5_send_12 : decode cX5_send 12 = .ok (.ifCond .ne 13, 3) := by decide +kernel
theorem dX5_send_15 : decode cX5_send 15 = .ok (.new 76, 3) := by decide +kernel
theorem dX5_send_18 : decode cX5_send 18 = .ok (.dup, 1) := by decide +kernel
theorem dX5_send_19 : decode cX5_send 19 = .ok (.ldc 114, 2) := by decide +kernel
theorem dX5_send_21 : decode cX5_send 21 = .ok (.invokespecial 80, 3) := by decide +kernel
theorem dX5_send_24 : decode cX5_send 24 = .ok (.athrow, 1) := by decide +kernel
theorem dX5_send_25 : decode cX5_send 25 = .ok (.aload_n 0, 1) := by decide +kernel
theorem dX5_send_26 : decode cX5_send 26 = .ok (.invokevirtual 69, 3) := by decide +kernel
theorem dX5_send_29 : decode cX5_send 29 = .ok (.aload_n 0, 1) := by decide +kernel
theorem dX5_send_30 : decode cX5_send 30 = .ok (.getfield 10, 3) := by decide +kernel
theorem dX5_send_33 : decode cX5_send 33 = .ok (.iload_n 1, 1) := by decide +kernel
theorem dX5_send_34 : decode cX5_send 34 = .ok (.invokevirtual 116, 3) := by decide +kernel
theorem dX5_send_37 : decode cX5_send 37 = .ok (.aload_n 0, 1) := by decide +kernel
theorem dX5_send_38 : decode cX5_send 38 = .ok (.getfield 10, 3) := by decide +kernel
theorem dX5_send_41 : decode cX5_send 41 = .ok (.getfield 119, 3) := by decide +kernel
theorem dX5_send_44 : decode cX5_send 44 = .ok (.ireturn, 1) := by decide +kernel
theorem dX5_turn_0 : decode cX5_turn 0 = .ok (.aload_n 0, 1) := by decide +kernel
theorem dX5_turn_1 : decode cX5_turn 1 = .ok (.iload_n 1, 1) := by decide +kernel
theorem dX5_turn_2 : decode cX5_turn 2 = .ok (.invokevirtual 123, 3) := by decide +kernel
theorem dX5_turn_5 : decode cX5_turn 5 = .ok (.aload_n 0, 1) := by decide +kernel
theorem dX5_turn_6 : decode cX5_turn 6 = .ok (.invokevirtual 69, 3) := by decide +kernel
theorem dX5_turn_9 : decode cX5_turn 9 = .ok (.aload_n 0, 1) := by decide +kernel
theorem dX5_turn_10 : decode cX5_turn 10 = .ok (.getfield 10, 3) := by decide +kernel
theorem dX5_turn_13 : decode cX5_turn 13 = .ok (.iload_n 1, 1) := by decide +kernel
theorem dX5_turn_14 : decode cX5_turn 14 = .ok (.invokevirtual 126, 3) := by decide +kernel
theorem dX5_turn_17 : decode cX5_turn 17 = .ok (.aload_n 0, 1) := by decide +kernel
theorem dX5_turn_18 : decode cX5_turn 18 = .ok (.getfield 10, 3) := by decide +kernel
theorem dX5_turn_21 : decode cX5_turn 21 = .ok (.getfield 129, 3) := by decide +kernel
theorem dX5_turn_24 : decode cX5_turn 24 = .ok (.iload_n 1, 1) := by decide +kernel
theorem dX5_turn_25 : decode cX5_turn 25 = .ok (.invokestatic 133, 3) := by decide +kernel
theorem dX5_turn_28 : decode cX5_turn 28 = .ok (.ireturn, 1) := by decide +kernel
theorem dX5_cut_0 : decode cX5_cut 0 = .ok (.iload_n 1, 1) := by decide +kernel
theorem dX5_cut_1 : decode cX5_cut 1 = .ok (.iconst 1, 1) := by decide +kernel
theorem dX5_cut_2 : decode cX5_cut 2 = .ok (.if_icmp .lt 9, 3) := by decide +kernel
theorem dX5_cut_5 : decode cX5_cut 5 = .ok (.iload_n 1, 1) := by decide +kernel
theorem dX5_cut_6 : decode cX5_cut 6 = .ok (.bipush 64, 2) := by decide +kernel
theorem dX5_cut_8 : decode cX5_cut 8 = .ok (.if_icmp .le 13, 3) := by decide +kernel
theorem dX5_cut_11 : decode cX5_cut 11 = .ok (.new 104, 3) := by decide +kernel
theorem dX5_cut_14 : decode cX5_cut 14 = .ok (.dup, 1) := by decide +kernel
theorem dX5_cut_15 : decode cX5_cut 15 = .ok (.ldc 137, 2) := by decide +kernel
theorem dX5_cut_17 : decode cX5_cut 17 = .ok (.invokespecial 108, 3) := by decide +kernel
theorem dX5_cut_20 : decode cX5_cut 20 = .ok (.athrow, 1) := by decide +kernel
theorem dX5_cut_21 : decode cX5_cut 21 = .ok (.iload_n 1, 1) := by decide +kernel
theorem dX5_cut_22 : decode cX5_cut 22 = .ok (.aload_n 0, 1) := by decide +kernel
theorem dX5_cut_23 : decode cX5_cut 23 = .ok (.getfield 10, 3) := by decide +kernel
theorem dX5_cut_26 : decode cX5_cut 26 = .ok (.getfield 119, 3) := by decide +kernel
theorem dX5_cut_29 : decode cX5_cut 29 = .ok (.if_icmp .le 13, 3) := by decide +kernel
theorem dX5_cut_32 : decode cX5_cut 32 = .ok (.new 76, 3) := by decide +kernel
theorem dX5_cut_35 : decode cX5_cut 35 = .ok (.dup, 1) := by decide +kernel
theorem dX5_cut_36 : decode cX5_cut 36 = .ok (.ldc 139, 2) := by decide +kernel
theorem dX5_cut_38 : decode cX5_cut 38 = .ok (.invokespecial 80, 3) := by decide +kernel
theorem dX5_cut_41 : decode cX5_cut 41 = .ok (.athrow, 1) := by decide +kernel
theorem dX5_cut_42 : decode cX5_cut 42 = .ok (.aload_n 0, 1) := by decide +kernel
theorem dX5_cut_43 : decode cX5_cut 43 = .ok (.invokevirtual 69, 3) := by decide +kernel
theorem dX5_cut_46 : decode cX5_cut 46 = .ok (.aload_n 0, 1) := by decide +kernel
theorem dX5_cut_47 : decode cX5_cut 47 = .ok (.getfield 10, 3) := by decide +kernel
theorem dX5_cut_50 : decode cX5_cut 50 = .ok (.iload_n 1, 1) := by decide +kernel
theorem dX5_cut_51 : decode cX5_cut 51 = .ok (.invokevirtual 141, 3) := by decide +kernel
theorem dX5_cut_54 : decode cX5_cut 54 = .ok (.aload_n 0, 1) := by decide +kernel
theorem dX5_cut_55 : decode cX5_cut 55 = .ok (.getfield 10, 3) := by decide +kernel
theorem dX5_cut_58 : decode cX5_cut 58 = .ok (.getfield 119, 3) := by decide +kernel
theorem dX5_cut_61 : decode cX5_cut 61 = .ok (.ireturn, 1) := by decide +kernel
theorem dX5_append_0 : decode cX5_append 0 = .ok (.iload_n 1, 1) := by decide +kernel
theorem dX5_append_1 : decode cX5_append 1 = .ok (.bipush 33, 2) := by decide +kernel
theorem dX5_append_3 : decode cX5_append 3 = .ok (.if_icmp .lt 9, 3) := by decide +kernel
theorem dX5_append_6 : decode cX5_append 6 = .ok (.iload_n 1, 1) := by decide +kernel
theorem dX5_append_7 : decode cX5_append 7 = .ok (.bipush 126, 2) := by decide +kernel
theorem dX5_append_9 : decode cX5_append 9 = .ok (.if_icmp .le 13, 3) := by decide +kernel
theorem dX5_append_12 : decode cX5_append 12 = .ok (.new 104, 3) := by decide +kernel
theorem dX5_append_15 : decode cX5_append 15 = .ok (.dup, 1) := by decide +kernel
theorem dX5_append_16 : decode cX5_append 16 = .ok (.ldc 144, 2) := by decide +kernel
theorem dX5_append_18 : decode cX5_append 18 = .ok (.invokespecial 108, 3) := by decide +kernel
theorem dX5_append_21 : decode cX5_append 21 = .ok (.athrow, 1) := by decide +kernel
theorem dX5_append_22 : decode cX5_append 22 = .ok (.aload_n 0, 1) := by decide +kernel
theorem dX5_append_23 : decode cX5_append 23 = .ok (.getfield 146, 3) := by decide +kernel
theorem dX5_append_26 : decode cX5_append 26 = .ok (.ifCond .lt 15, 3) := by decide +kernel
theorem dX5_append_29 : decode cX5_append 29 = .ok (.aload_n 0, 1) := by decide +kernel
theorem dX5_append_30 : decode cX5_append 30 = .ok (.getfield 146, 3) := by decide +kernel
theorem dX5_append_33 : decode cX5_append 33 = .ok (.aload_n 0, 1) := by decide +kernel
theorem dX5_append_34 : decode cX5_append 34 = .ok (.getfield 23, 3) := by decide +kernel
theorem dX5_append_37 : decode cX5_append 37 = .ok (.arraylength, 1) := by decide +kernel
theorem dX5_append_38 : decode cX5_append 38 = .ok (.if_icmp .lt 13, 3) := by decide +kernel
theorem dX5_append_41 : decode cX5_append 41 = .ok (.new 76, 3) := by decide +kernel
theorem dX5_append_44 : decode cX5_append 44 = .ok (.dup, 1) := by decide +kernel
theorem dX5_append_45 : decode cX5_append 45 = .ok (.ldc 149, 2) := by decide +kernel
theorem dX5_append_47 : decode cX5_append 47 = .ok (.invokespecial 80, 3) := by decide +kernel
theorem dX5_append_50 : decode cX5_append 50 = .ok (.athrow, 1) := by decide +kernel
theorem dX5_append_51 : decode cX5_append 51 = .ok (.aload_n 0, 1) := by decide +kernel
theorem dX5_append_52 : decode cX5_append 52 = .ok (.getfield 23, 3) := by decide +kernel
theorem dX5_append_55 : decode cX5_append 55 = .ok (.aload_n 0, 1) := by decide +kernel
theorem dX5_append_56 : decode cX5_append 56 = .ok (.getfield 146, 3) := by decide +kernel
theorem dX5_append_59 : decode cX5_append 59 = .ok (.iload_n 1, 1) := by decide +kernel
theorem dX5_append_60 : decode cX5_append 60 = .ok (.i2c, 1) := by decide +kernel
theorem dX5_append_61 : decode cX5_append 61 = .ok (.castore, 1) := by decide +kernel
theorem dX5_append_62 : decode cX5_append 62 = .ok (.aload_n 0, 1) := by decide +kernel
theorem dX5_append_63 : decode cX5_append 63 = .ok (.dup, 1) := by decide +kernel
theorem dX5_append_64 : decode cX5_append 64 = .ok (.getfield 146, 3) := by decide +kernel
theorem dX5_append_67 : decode cX5_append 67 = .ok (.iconst 1, 1) := by decide +kernel
theorem dX5_append_68 : decode cX5_append 68 = .ok (.iadd, 1) := by decide +kernel
theorem dX5_append_69 : decode cX5_append 69 = .ok (.putfield 146, 3) := by decide +kernel
theorem dX5_append_72 : decode cX5_append 72 = .ok (.aload_n 0, 1) := by decide +kernel
theorem dX5_append_73 : decode cX5_append 73 = .ok (.getfield 146, 3) := by decide +kernel
theorem dX5_append_76 : decode cX5_append 76 = .ok (.ireturn, 1) := by decide +kernel
theorem dX5_clearBuffer_0 : decode cX5_clearBuffer 0 = .ok (.aload_n 0, 1) := by decide +kernel
theorem dX5_clearBuffer_1 : decode cX5_clearBuffer 1 = .ok (.getfield 146, 3) := by decide +kernel
theorem dX5_clearBuffer_4 : decode cX5_clearBuffer 4 = .ok (.istore_n 1, 1) := by decide +kernel
theorem dX5_clearBuffer_5 : decode cX5_clearBuffer 5 = .ok (.aload_n 0, 1) := by decide +kernel
theorem dX5_clearBuffer_6 : decode cX5_clearBuffer 6 = .ok (.iconst 0, 1) := by decide +kernel
theorem dX5_clearBuffer_7 : decode cX5_clearBuffer 7 = .ok (.putfield 146, 3) := by decide +kernel
theorem dX5_clearBuffer_10 : decode cX5_clearBuffer 10 = .ok (.iload_n 1, 1) := by decide +kernel
theorem dX5_clearBuffer_11 : decode cX5_clearBuffer 11 = .ok (.ireturn, 1) := by decide +kernel
theorem dX5_work_0 : decode cX5_work 0 = .ok (.aload_n 0, 1) := by decide +kernel
theorem dX5_work_1 : decode cX5_work 1 = .ok (.invokevirtual 151, 3) := by decide +kernel
theorem dX5_work_4 : decode cX5_work 4 = .ok (.aload_n 0, 1) := by decide +kernel
theorem dX5_work_5 : decode cX5_work 5 = .ok (.getfield 146, 3) := by decide +kernel
theorem dX5_work_8 : decode cX5_work 8 = .ok (.if_icmp .lt 13, 3) := by decide +kernel
theorem dX5_work_11 : decode cX5_work 11 = .ok (.aload_n 0, 1) := by decide +kernel
theorem dX5_work_12 : decode cX5_work 12 = .ok (.getfield 30, 3) := by decide +kernel
theorem dX5_work_15 : decode cX5_work 15 = .ok (.invokevirtual 155, 3) := by decide +kernel
theorem dX5_work_18 : decode cX5_work 18 = .ok (.ifCond .ne 13, 3) := by decide +kernel
theorem dX5_work_21 : decode cX5_work 21 = .ok (.new 104, 3) := by decide +kernel
theorem dX5_work_24 : decode cX5_work 24 = .ok (.dup, 1) := by decide +kernel
theorem dX5_work_25 : decode cX5_work 25 = .ok (.ldc 159, 2) := by decide +kernel
theorem dX5_work_27 : decode cX5_work 27 = .ok (.invokespecial 108, 3) := by decide +kernel
theorem dX5_work_30 : decode cX5_work 30 = .ok (.athrow, 1) := by decide +kernel
theorem dX5_work_31 : decode cX5_work 31 = .ok (.aload_n 0, 1) := by decide +kernel
theorem dX5_work_32 : decode cX5_work 32 = .ok (.invokevirtual 69, 3) := by decide +kernel
theorem dX5_work_35 : decode cX5_work 35 = .ok (.aload_n 0, 1) := by decide +kernel
theorem dX5_work_36 : decode cX5_work 36 = .ok (.invokevirtual 161, 3) := by decide +kernel
theorem dX5_work_39 : decode cX5_work 39 = .ok (.istore_n 1, 1) := by decide +kernel
theorem dX5_work_40 : decode cX5_work 40 = .ok (.aload_n 0, 1) := by decide +kernel
theorem dX5_work_41 : decode cX5_work 41 = .ok (.iconst 0, 1) := by decide +kernel
theorem dX5_work_42 : decode cX5_work 42 = .ok (.putfield 146, 3) := by decide +kernel
theorem dX5_work_45 : decode cX5_work 45 = .ok (.iload_n 1, 1) := by decide +kernel
theorem dX5_work_46 : decode cX5_work 46 = .ok (.ireturn, 1) := by decide +kernel
theorem dX5_hasStopped_0 : decode cX5_hasStopped 0 = .ok (.aload_n 0, 1) := by decide +kernel
theorem dX5_hasStopped_1 : decode cX5_hasStopped 1 = .ok (.getfield 10, 3) := by decide +kernel
theorem dX5_hasStopped_4 : decode cX5_hasStopped 4 = .ok (.getfield 164, 3) := by decide +kernel
theorem dX5_hasStopped_7 : decode cX5_hasStopped 7 = .ok (.iconst (-1), 1) := by decide +kernel
theorem dX5_hasStopped_8 : decode cX5_hasStopped 8 = .ok (.if_icmp .eq 7, 3) := by decide +kernel
theorem dX5_hasStopped_11 : decode cX5_hasStopped 11 = .ok (.iconst 1, 1) := by decide +kernel
theorem dX5_hasStopped_12 : decode cX5_hasStopped 12 = .ok (.goto 4, 3) := by decide +kernel
theorem dX5_hasStopped_15 : decode cX5_hasStopped 15 = .ok (.iconst 0, 1) := by decide +kernel
theorem dX5_hasStopped_16 : decode cX5_hasStopped 16 = .ok (.ireturn, 1) := by decide +kernel
theorem dX5_stoppedPart_0 : decode cX5_stoppedPart 0 = .ok (.aload_n 0, 1) := by decide +kernel
theorem dX5_stoppedPart_1 : decode cX5_stoppedPart 1 = .ok (.invokevirtual 167, 3) := by decide +kernel
theorem dX5_stoppedPart_4 : decode cX5_stoppedPart 4 = .ok (.aload_n 0, 1) := by decide +kernel
theorem dX5_stoppedPart_5 : decode cX5_stoppedPart 5 = .ok (.getfield 10, 3) := by decide +kernel
theorem dX5_stoppedPart_8 : decode cX5_stoppedPart 8 = .ok (.getfield 164, 3) := by decide +kernel
theorem dX5_stoppedPart_11 : decode cX5_stoppedPart 11 = .ok (.ireturn, 1) := by decide +kernel
theorem dX5_whyStopped_0 : decode cX5_whyStopped 0 = .ok (.aload_n 0, 1) := by decide +kernel
theorem dX5_whyStopped_1 : decode cX5_whyStopped 1 = .ok (.invokevirtual 167, 3) := by decide +kernel
theorem dX5_whyStopped_4 : decode cX5_whyStopped 4 = .ok (.aload_n 0, 1) := by decide +kernel
theorem dX5_whyStopped_5 : decode cX5_whyStopped 5 = .ok (.getfield 10, 3) := by decide +kernel
theorem dX5_whyStopped_8 : decode cX5_whyStopped 8 = .ok (.getfield 170, 3) := by decide +kernel
theorem dX5_whyStopped_11 : decode cX5_whyStopped 11 = .ok (.ireturn, 1) := by decide +kernel
theorem dX5_undo_0 : decode cX5_undo 0 = .ok (.aload_n 0, 1) := by decide +kernel
theorem dX5_undo_1 : decode cX5_undo 1 = .ok (.getfield 173, 3) := by decide +kernel
theorem dX5_undo_4 : decode cX5_undo 4 = .ok (.iconst 1, 1) := by decide +kernel
theorem dX5_undo_5 : decode cX5_undo 5 = .ok (.if_icmp .lt 15, 3) := by decide +kernel
theorem dX5_undo_8 : decode cX5_undo 8 = .ok (.aload_n 0, 1) := by decide +kernel
theorem dX5_undo_9 : decode cX5_undo 9 = .ok (.getfield 173, 3) := by decide +kernel
theorem dX5_undo_12 : decode cX5_undo 12 = .ok (.aload_n 0, 1) := by decide +kernel
theorem dX5_undo_13 : decode cX5_undo 13 = .ok (.getfield 19, 3) := by decide +kernel
theorem dX5_undo_16 : decode cX5_undo 16 = .ok (.arraylength, 1) := by decide +kernel
theorem dX5_undo_17 : decode cX5_undo 17 = .ok (.if_icmp .le 13, 3) := by decide +kernel
theorem dX5_undo_20 : decode cX5_undo 20 = .ok (.new 76, 3) := by decide +kernel
theorem dX5_undo_23 : decode cX5_undo 23 = .ok (.dup, 1) := by decide +kernel
theorem dX5_undo_24 : decode cX5_undo 24 = .ok (.ldc 176, 2) := by decide +kernel
theorem dX5_undo_26 : decode cX5_undo 26 = .ok (.invokespecial 80, 3) := by decide +kernel
theorem dX5_undo_29 : decode cX5_undo 29 = .ok (.athrow, 1) := by decide +kernel
theorem dX5_undo_30 : decode cX5_undo 30 = .ok (.aload_n 0, 1) := by decide +kernel
theorem dX5_undo_31 : decode cX5_undo 31 = .ok (.dup, 1) := by decide +kernel
theorem dX5_undo_32 : decode cX5_undo 32 = .ok (.getfield 173, 3) := by decide +kernel
theorem dX5_undo_35 : decode cX5_undo 35 = .ok (.iconst 1, 1) := by decide +kernel
theorem dX5_undo_36 : decode cX5_undo 36 = .ok (.isub, 1) := by decide +kernel
theorem dX5_undo_37 : decode cX5_undo 37 = .ok (.putfield 173, 3) := by decide +kernel
theorem dX5_undo_40 : decode cX5_undo 40 = .ok (.aload_n 0, 1) := by decide +kernel
theorem dX5_undo_41 : decode cX5_undo 41 = .ok (.getfield 19, 3) := by decide +kernel
theorem dX5_undo_44 : decode cX5_undo 44 = .ok (.aload_n 0, 1) := by decide +kernel
theorem dX5_undo_45 : decode cX5_undo 45 = .ok (.getfield 173, 3) := by decide +kernel
theorem dX5_undo_48 : decode cX5_undo 48 = .ok (.aaload, 1) := by decide +kernel
theorem dX5_undo_49 : decode cX5_undo 49 = .ok (.aload_n 0, 1) := by decide +kernel
theorem dX5_undo_50 : decode cX5_undo 50 = .ok (.getfield 10, 3) := by decide +kernel
theorem dX5_undo_53 : decode cX5_undo 53 = .ok (.invokestatic 178, 3) := by decide +kernel
theorem dX5_undo_56 : decode cX5_undo 56 = .ok (.aload_n 0, 1) := by decide +kernel
theorem dX5_undo_57 : decode cX5_undo 57 = .ok (.getfield 173, 3) := by decide +kernel
theorem dX5_undo_60 : decode cX5_undo 60 = .ok (.ireturn, 1) := by decide +kernel
theorem dX5_keep_0 : decode cX5_keep 0 = .ok (.aload_n 0, 1) := by decide +kernel
theorem dX5_keep_1 : decode cX5_keep 1 = .ok (.getfield 10, 3) := by decide +kernel
theorem dX5_keep_4 : decode cX5_keep 4 = .ok (.aload_n 0, 1) := by decide +kernel
theorem dX5_keep_5 : decode cX5_keep 5 = .ok (.getfield 16, 3) := by decide +kernel
theorem dX5_keep_8 : decode cX5_keep 8 = .ok (.invokestatic 178, 3) := by decide +kernel
theorem dX5_keep_11 : decode cX5_keep 11 = .ok (.aload_n 0, 1) := by decide +kernel
theorem dX5_keep_12 : decode cX5_keep 12 = .ok (.iconst 1, 1) := by decide +kernel
theorem dX5_keep_13 : decode cX5_keep 13 = .ok (.putfield 182, 3) := by decide +kernel
theorem dX5_keep_16 : decode cX5_keep 16 = .ok (.aload_n 0, 1) := by decide +kernel
theorem dX5_keep_17 : decode cX5_keep 17 = .ok (.getfield 10, 3) := by decide +kernel
theorem dX5_keep_20 : decode cX5_keep 20 = .ok (.invokevirtual 186, 3) := by decide +kernel
theorem dX5_keep_23 : decode cX5_keep 23 = .ok (.ireturn, 1) := by decide +kernel
theorem dX5_restore_0 : decode cX5_restore 0 = .ok (.aload_n 0, 1) := by decide +kernel
theorem dX5_restore_1 : decode cX5_restore 1 = .ok (.getfield 182, 3) := by decide +kernel
theorem dX5_restore_4 : decode cX5_restore 4 = .ok (.ifCond .ne 13, 3) := by decide +kernel
theorem dX5_restore_7 : decode cX5_restore 7 = .ok (.new 76, 3) := by decide +kernel
theorem dX5_restore_10 : decode cX5_restore 10 = .ok (.dup, 1) := by decide +kernel
theorem dX5_restore_11 : decode cX5_restore 11 = .ok (.ldc 189, 2) := by decide +kernel
theorem dX5_restore_13 : decode cX5_restore 13 = .ok (.invokespecial 80, 3) := by decide +kernel
theorem dX5_restore_16 : decode cX5_restore 16 = .ok (.athrow, 1) := by decide +kernel
theorem dX5_restore_17 : decode cX5_restore 17 = .ok (.aload_n 0, 1) := by decide +kernel
theorem dX5_restore_18 : decode cX5_restore 18 = .ok (.invokevirtual 69, 3) := by decide +kernel
theorem dX5_restore_21 : decode cX5_restore 21 = .ok (.aload_n 0, 1) := by decide +kernel
theorem dX5_restore_22 : decode cX5_restore 22 = .ok (.getfield 16, 3) := by decide +kernel
theorem dX5_restore_25 : decode cX5_restore 25 = .ok (.aload_n 0, 1) := by decide +kernel
theorem dX5_restore_26 : decode cX5_restore 26 = .ok (.getfield 10, 3) := by decide +kernel
theorem dX5_restore_29 : decode cX5_restore 29 = .ok (.invokestatic 178, 3) := by decide +kernel
theorem dX5_restore_32 : decode cX5_restore 32 = .ok (.aload_n 0, 1) := by decide +kernel
theorem dX5_restore_33 : decode cX5_restore 33 = .ok (.getfield 10, 3) := by decide +kernel
theorem dX5_restore_36 : decode cX5_restore 36 = .ok (.invokevirtual 186, 3) := by decide +kernel
theorem dX5_restore_39 : decode cX5_restore 39 = .ok (.ireturn, 1) := by decide +kernel
theorem dX5_savedStates_0 : decode cX5_savedStates 0 = .ok (.aload_n 0, 1) := by decide +kernel
theorem dX5_savedStates_1 : decode cX5_savedStates 1 = .ok (.getfield 173, 3) := by decide +kernel
theorem dX5_savedStates_4 : decode cX5_savedStates 4 = .ok (.ireturn, 1) := by decide +kernel
theorem dX5_worthOfSet_0 : decode cX5_worthOfSet 0 = .ok (.iload_n 1, 1) := by decide +kernel
theorem dX5_worthOfSet_1 : decode cX5_worthOfSet 1 = .ok (.ifCond .lt 9, 3) := by decide +kernel
theorem dX5_worthOfSet_4 : decode cX5_worthOfSet 4 = .ok (.iload_n 1, 1) := by decide +kernel
theorem dX5_worthOfSet_5 : decode cX5_worthOfSet 5 = .ok (.ldc 199, 2) := by decide +kernel
theorem dX5_worthOfSet_7 : decode cX5_worthOfSet 7 = .ok (.if_icmp .le 13, 3) := by decide +kernel
theorem dX5_worthOfSet_10 : decode cX5_worthOfSet 10 = .ok (.new 104, 3) := by decide +kernel
theorem dX5_worthOfSet_13 : decode cX5_worthOfSet 13 = .ok (.dup, 1) := by decide +kernel
theorem dX5_worthOfSet_14 : decode cX5_worthOfSet 14 = .ok (.ldc 200, 2) := by decide +kernel
theorem dX5_worthOfSet_16 : decode cX5_worthOfSet 16 = .ok (.invokespecial 108, 3) := by decide +kernel
theorem dX5_worthOfSet_19 : decode cX5_worthOfSet 19 = .ok (.athrow, 1) := by decide +kernel
theorem dX5_worthOfSet_20 : decode cX5_worthOfSet 20 = .ok (.iload_n 1, 1) := by decide +kernel
theorem dX5_worthOfSet_21 : decode cX5_worthOfSet 21 = .ok (.invokestatic 202, 3) := by decide +kernel
theorem dX5_worthOfSet_24 : decode cX5_worthOfSet 24 = .ok (.ireturn, 1) := by decide +kernel
theorem dX5_say_0 : decode cX5_say 0 = .ok (.iload_n 1, 1) := by decide +kernel
theorem dX5_say_1 : decode cX5_say 1 = .ok (.invokestatic 62, 3) := by decide +kernel
theorem dX5_say_4 : decode cX5_say 4 = .ok (.iload_n 1, 1) := by decide +kernel
theorem dX5_say_5 : decode cX5_say 5 = .ok (.invokestatic 89, 3) := by decide +kernel
theorem dX5_say_8 : decode cX5_say 8 = .ok (.ireturn, 1) := by decide +kernel
theorem dX5_sayByCounting_0 : decode cX5_sayByCounting 0 = .ok (.iload_n 1, 1) := by decide +kernel
theorem dX5_sayByCounting_1 : decode cX5_sayByCounting 1 = .ok (.invokestatic 62, 3) := by decide +kernel
theorem dX5_sayByCounting_4 : decode cX5_sayByCounting 4 = .ok (.iload_n 1, 1) := by decide +kernel
theorem dX5_sayByCounting_5 : decode cX5_sayByCounting 5 = .ok (.invokestatic 205, 3) := by decide +kernel
theorem dX5_sayByCounting_8 : decode cX5_sayByCounting 8 = .ok (.ireturn, 1) := by decide +kernel
theorem dX5_fullSet_0 : decode cX5_fullSet 0 = .ok (.iload_n 1, 1) := by decide +kernel
theorem dX5_fullSet_1 : decode cX5_fullSet 1 = .ok (.invokestatic 62, 3) := by decide +kernel
theorem dX5_fullSet_4 : decode cX5_fullSet 4 = .ok (.iload_n 1, 1) := by decide +kernel
theorem dX5_fullSet_5 : decode cX5_fullSet 5 = .ok (.invokestatic 208, 3) := by decide +kernel
theorem dX5_fullSet_8 : decode cX5_fullSet 8 = .ok (.ireturn, 1) := by decide +kernel
theorem dX5_ways_0 : decode cX5_ways 0 = .ok (.iload_n 1, 1) := by decide +kernel
theorem dX5_ways_1 : decode cX5_ways 1 = .ok (.invokestatic 62, 3) := by decide +kernel
theorem dX5_ways_4 : decode cX5_ways 4 = .ok (.aload_n 0, 1) := by decide +kernel
theorem dX5_ways_5 : decode cX5_ways 5 = .ok (.iload_n 1, 1) := by decide +kernel
theorem dX5_ways_6 : decode cX5_ways 6 = .ok (.invokevirtual 211, 3) := by decide +kernel
theorem dX5_ways_9 : decode cX5_ways 9 = .ok (.ireturn, 1) := by decide +kernel
theorem dX5_waysByGaps_0 : decode cX5_waysByGaps 0 = .ok (.iload_n 1, 1) := by decide +kernel
theorem dX5_waysByGaps_1 : decode cX5_waysByGaps 1 = .ok (.invokestatic 62, 3) := by decide +kernel
theorem dX5_waysByGaps_4 : decode cX5_waysByGaps 4 = .ok (.iload_n 1, 1) := by decide +kernel
theorem dX5_waysByGaps_5 : decode cX5_waysByGaps 5 = .ok (.invokestatic 89, 3) := by decide +kernel
theorem dX5_waysByGaps_8 : decode cX5_waysByGaps 8 = .ok (.invokestatic 214, 3) := by decide +kernel
theorem dX5_waysByGaps_11 : decode cX5_waysByGaps 11 = .ok (.ireturn, 1) := by decide +kernel
theorem dX5_spokenLength_0 : decode cX5_spokenLength 0 = .ok (.iload_n 1, 1) := by decide +kernel
theorem dX5_spokenLength_1 : decode cX5_spokenLength 1 = .ok (.invokestatic 217, 3) := by decide +kernel
theorem dX5_spokenLength_4 : decode cX5_spokenLength 4 = .ok (.iload_n 2, 1) := by decide +kernel
theorem dX5_spokenLength_5 : decode cX5_spokenLength 5 = .ok (.invokestatic 62, 3) := by decide +kernel
theorem dX5_spokenLength_8 : decode cX5_spokenLength 8 = .ok (.iload_n 2, 1) := by decide +kernel
theorem dX5_spokenLength_9 : decode cX5_spokenLength 9 = .ok (.invokestatic 89, 3) := by decide +kernel
theorem dX5_spokenLength_12 : decode cX5_spokenLength 12 = .ok (.invokestatic 220, 3) := by decide +kernel
theorem dX5_spokenLength_15 : decode cX5_spokenLength 15 = .ok (.ireturn, 1) := by decide +kernel
theorem dX5_spokenAt_0 : decode cX5_spokenAt 0 = .ok (.iload_n 1, 1) := by decide +kernel
theorem dX5_spokenAt_1 : decode cX5_spokenAt 1 = .ok (.invokestatic 217, 3) := by decide +kernel
theorem dX5_spokenAt_4 : decode cX5_spokenAt 4 = .ok (.iload_n 2, 1) := by decide +kernel
theorem dX5_spokenAt_5 : decode cX5_spokenAt 5 = .ok (.invokestatic 62, 3) := by decide +kernel
theorem dX5_spokenAt_8 : decode cX5_spokenAt 8 = .ok (.iload_n 2, 1) := by decide +kernel
theorem dX5_spokenAt_9 : decode cX5_spokenAt 9 = .ok (.invokestatic 89, 3) := by decide +kernel
theorem dX5_spokenAt_12 : decode cX5_spokenAt 12 = .ok (.istore 4, 2) := by decide +kernel
theorem dX5_spokenAt_14 : decode cX5_spokenAt 14 = .ok (.iload_n 3, 1) := by decide +kernel
theorem dX5_spokenAt_15 : decode cX5_spokenAt 15 = .ok (.ifCond .lt 12, 3) := by decide +kernel
theorem dX5_spokenAt_18 : decode cX5_spokenAt 18 = .ok (.iload_n 3, 1) := by decide +kernel
theorem dX5_spokenAt_19 : decode cX5_spokenAt 19 = .ok (.iload 4, 2) := by decide +kernel
theorem dX5_spokenAt_21 : decode cX5_spokenAt 21 = .ok (.invokestatic 220, 3) := by decide +kernel
theorem dX5_spokenAt_24 : decode cX5_spokenAt 24 = .ok (.if_icmp .lt 13, 3) := by decide +kernel
theorem dX5_spokenAt_27 : decode cX5_spokenAt 27 = .ok (.new 104, 3) := by decide +kernel
theorem dX5_spokenAt_30 : decode cX5_spokenAt 30 = .ok (.dup, 1) := by decide +kernel
theorem dX5_spokenAt_31 : decode cX5_spokenAt 31 = .ok (.ldc 225, 2) := by decide +kernel
theorem dX5_spokenAt_33 : decode cX5_spokenAt 33 = .ok (.invokespecial 108, 3) := by decide +kernel
theorem dX5_spokenAt_36 : decode cX5_spokenAt 36 = .ok (.athrow, 1) := by decide +kernel
theorem dX5_spokenAt_37 : decode cX5_spokenAt 37 = .ok (.iload_n 1, 1) := by decide +kernel
theorem dX5_spokenAt_38 : decode cX5_spokenAt 38 = .ok (.iload 4, 2) := by decide +kernel
theorem dX5_spokenAt_40 : decode cX5_spokenAt 40 = .ok (.iload_n 3, 1) := by decide +kernel
theorem dX5_spokenAt_41 : decode cX5_spokenAt 41 = .ok (.invokestatic 227, 3) := by decide +kernel
theorem dX5_spokenAt_44 : decode cX5_spokenAt 44 = .ok (.ireturn, 1) := by decide +kernel
theorem dX5_numberOf_0 : decode cX5_numberOf 0 = .ok (.iload_n 1, 1) := by decide +kernel
theorem dX5_numberOf_1 : decode cX5_numberOf 1 = .ok (.invokestatic 58, 3) := by decide +kernel
theorem dX5_numberOf_4 : decode cX5_numberOf 4 = .ok (.aload_n 0, 1) := by decide +kernel
theorem dX5_numberOf_5 : decode cX5_numberOf 5 = .ok (.getfield 10, 3) := by decide +kernel
theorem dX5_numberOf_8 : decode cX5_numberOf 8 = .ok (.iload_n 1, 1) := by decide +kernel
theorem dX5_numberOf_9 : decode cX5_numberOf 9 = .ok (.invokevirtual 65, 3) := by decide +kernel
theorem dX5_numberOf_12 : decode cX5_numberOf 12 = .ok (.ireturn, 1) := by decide +kernel
theorem dX5_stepsOf_0 : decode cX5_stepsOf 0 = .ok (.iload_n 1, 1) := by decide +kernel
theorem dX5_stepsOf_1 : decode cX5_stepsOf 1 = .ok (.invokestatic 58, 3) := by decide +kernel
theorem dX5_stepsOf_4 : decode cX5_stepsOf 4 = .ok (.aload_n 0, 1) := by decide +kernel
theorem dX5_stepsOf_5 : decode cX5_stepsOf 5 = .ok (.getfield 10, 3) := by decide +kernel
theorem dX5_stepsOf_8 : decode cX5_stepsOf 8 = .ok (.iload_n 1, 1) := by decide +kernel
theorem dX5_stepsOf_9 : decode cX5_stepsOf 9 = .ok (.invokevirtual 65, 3) := by decide +kernel
theorem dX5_stepsOf_12 : decode cX5_stepsOf 12 = .ok (.invokestatic 89, 3) := by decide +kernel
theorem dX5_stepsOf_15 : decode cX5_stepsOf 15 = .ok (.invokestatic 220, 3) := by decide +kernel
theorem dX5_stepsOf_18 : decode cX5_stepsOf 18 = .ok (.ireturn, 1) := by decide +kernel
theorem dX5_total_0 : decode cX5_total 0 = .ok (.aload_n 0, 1) := by decide +kernel
theorem dX5_total_1 : decode cX5_total 1 = .ok (.getfield 10, 3) := by decide +kernel
theorem dX5_total_4 : decode cX5_total 4 = .ok (.invokevirtual 186, 3) := by decide +kernel
theorem dX5_total_7 : decode cX5_total 7 = .ok (.ireturn, 1) := by decide +kernel
theorem dX5_richest_0 : decode cX5_richest 0 = .ok (.iconst 0, 1) := by decide +kernel
theorem dX5_richest_1 : decode cX5_richest 1 = .ok (.istore_n 1, 1) := by decide +kernel
theorem dX5_richest_2 : decode cX5_richest 2 = .ok (.iconst 1, 1) := by decide +kernel
theorem dX5_richest_3 : decode cX5_richest 3 = .ok (.istore_n 2, 1) := by decide +kernel
theorem dX5_richest_4 : decode cX5_richest 4 = .ok (.iload_n 2, 1) := by decide +kernel
theorem dX5_richest_5 : decode cX5_richest 5 = .ok (.bipush 6, 2) := by decide +kernel
theorem dX5_richest_7 : decode cX5_richest 7 = .ok (.if_icmp .ge 30, 3) := by decide +kernel
theorem dX5_richest_10 : decode cX5_richest 10 = .ok (.aload_n 0, 1) := by decide +kernel
theorem dX5_richest_11 : decode cX5_richest 11 = .ok (.getfield 10, 3) := by decide +kernel
theorem dX5_richest_14 : decode cX5_richest 14 = .ok (.iload_n 2, 1) := by decide +kernel
theorem dX5_richest_15 : decode cX5_richest 15 = .ok (.invokevirtual 65, 3) := by decide +kernel
theorem dX5_richest_18 : decode cX5_richest 18 = .ok (.aload_n 0, 1) := by decide +kernel
theorem dX5_richest_19 : decode cX5_richest 19 = .ok (.getfield 10, 3) := by decide +kernel
theorem dX5_richest_22 : decode cX5_richest 22 = .ok (.iload_n 1, 1) := by decide +kernel
theorem dX5_richest_23 : decode cX5_richest 23 = .ok (.invokevirtual 65, 3) := by decide +kernel
theorem dX5_richest_26 : decode cX5_richest 26 = .ok (.if_icmp .le 5, 3) := by decide +kernel
theorem dX5_richest_29 : decode cX5_richest 29 = .ok (.iload_n 2, 1) := by decide +kernel
theorem dX5_richest_30 : decode cX5_richest 30 = .ok (.istore_n 1, 1) := by decide +kernel
theorem dX5_richest_31 : decode cX5_richest 31 = .ok (.iinc 2 1, 3) := by decide +kernel
theorem dX5_richest_34 : decode cX5_richest 34 = .ok (.goto (-30), 3) := by decide +kernel
theorem dX5_richest_37 : decode cX5_richest 37 = .ok (.iload_n 1, 1) := by decide +kernel
theorem dX5_richest_38 : decode cX5_richest 38 = .ok (.ireturn, 1) := by decide +kernel
theorem dX5_sumByCarries_0 : decode cX5_sumByCarries 0 = .ok (.iload_n 1, 1) := by decide +kernel
theorem dX5_sumByCarries_1 : decode cX5_sumByCarries 1 = .ok (.invokestatic 58, 3) := by decide +kernel
theorem dX5_sumByCarries_4 : decode cX5_sumByCarries 4 = .ok (.iload_n 2, 1) := by decide +kernel
theorem dX5_sumByCarries_5 : decode cX5_sumByCarries 5 = .ok (.invokestatic 58, 3) := by decide +kernel
theorem dX5_sumByCarries_8 : decode cX5_sumByCarries 8 = .ok (.aload_n 0, 1) := by decide +kernel
theorem dX5_sumByCarries_9 : decode cX5_sumByCarries 9 = .ok (.iload_n 1, 1) := by decide +kernel
theorem dX5_sumByCarries_10 : decode cX5_sumByCarries 10 = .ok (.iload_n 2, 1) := by decide +kernel
theorem dX5_sumByCarries_11 : decode cX5_sumByCarries 11 = .ok (.invokevirtual 83, 3) := by decide +kernel
theorem dX5_sumByCarries_14 : decode cX5_sumByCarries 14 = .ok (.pop, 1) := by decide +kernel
theorem dX5_sumByCarries_15 : decode cX5_sumByCarries 15 = .ok (.aload_n 0, 1) := by decide +kernel
theorem dX5_sumByCarries_16 : decode cX5_sumByCarries 16 = .ok (.getfield 44, 3) := by decide +kernel
theorem dX5_sumByCarries_19 : decode cX5_sumByCarries 19 = .ok (.invokevirtual 231, 3) := by decide +kernel
theorem dX5_sumByCarries_22 : decode cX5_sumByCarries 22 = .ok (.ireturn, 1) := by decide +kernel
theorem dX5_carries_0 : decode cX5_carries 0 = .ok (.iload_n 1, 1) := by decide +kernel
theorem dX5_carries_1 : decode cX5_carries 1 = .ok (.invokestatic 58, 3) := by decide +kernel
theorem dX5_carries_4 : decode cX5_carries 4 = .ok (.iload_n 2, 1) := by decide +kernel
theorem dX5_carries_5 : decode cX5_carries 5 = .ok (.invokestatic 58, 3) := by decide +kernel
theorem dX5_carries_8 : decode cX5_carries 8 = .ok (.aload_n 0, 1) := by decide +kernel
theorem dX5_carries_9 : decode cX5_carries 9 = .ok (.iload_n 1, 1) := by decide +kernel
theorem dX5_carries_10 : decode cX5_carries 10 = .ok (.iload_n 2, 1) := by decide +kernel
theorem dX5_carries_11 : decode cX5_carries 11 = .ok (.invokevirtual 83, 3) := by decide +kernel
theorem dX5_carries_14 : decode cX5_carries 14 = .ok (.ireturn, 1) := by decide +kernel
theorem dX5_streamLength_0 : decode cX5_streamLength 0 = .ok (.aload_n 0, 1) := by decide +kernel
theorem dX5_streamLength_1 : decode cX5_streamLength 1 = .ok (.getfield 10, 3) := by decide +kernel
theorem dX5_streamLength_4 : decode cX5_streamLength 4 = .ok (.getfield 119, 3) := by decide +kernel
theorem dX5_streamLength_7 : decode cX5_streamLength 7 = .ok (.ireturn, 1) := by decide +kernel
theorem dX5_digitAt_0 : decode cX5_digitAt 0 = .ok (.aload_n 0, 1) := by decide +kernel
theorem dX5_digitAt_1 : decode cX5_digitAt 1 = .ok (.iload_n 1, 1) := by decide +kernel
theorem dX5_digitAt_2 : decode cX5_digitAt 2 = .ok (.invokevirtual 123, 3) := by decide +kernel
theorem dX5_digitAt_5 : decode cX5_digitAt 5 = .ok (.aload_n 0, 1) := by decide +kernel
theorem dX5_digitAt_6 : decode cX5_digitAt 6 = .ok (.getfield 10, 3) := by decide +kernel
theorem dX5_digitAt_9 : decode cX5_digitAt 9 = .ok (.getfield 129, 3) := by decide +kernel
theorem dX5_digitAt_12 : decode cX5_digitAt 12 = .ok (.iload_n 1, 1) := by decide +kernel
theorem dX5_digitAt_13 : decode cX5_digitAt 13 = .ok (.invokestatic 133, 3) := by decide +kernel
theorem dX5_digitAt_16 : decode cX5_digitAt 16 = .ok (.ireturn, 1) := by decide +kernel
theorem dX5_readNumbers_0 : decode cX5_readNumbers 0 = .ok (.aload_n 0, 1) := by decide +kernel
theorem dX5_readNumbers_1 : decode cX5_readNumbers 1 = .ok (.getfield 37, 3) := by decide +kernel
theorem dX5_readNumbers_4 : decode cX5_readNumbers 4 = .ok (.aload_n 0, 1) := by decide +kernel
theorem dX5_readNumbers_5 : decode cX5_readNumbers 5 = .ok (.getfield 10, 3) := by decide +kernel
theorem dX5_readNumbers_8 : decode cX5_readNumbers 8 = .ok (.getfield 129, 3) := by decide +kernel
theorem dX5_readNumbers_11 : decode cX5_readNumbers 11 = .ok (.aload_n 0, 1) := by decide +kernel
theorem dX5_readNumbers_12 : decode cX5_readNumbers 12 = .ok (.getfield 10, 3) := by decide +kernel
theorem dX5_readNumbers_15 : decode cX5_readNumbers 15 = .ok (.getfield 119, 3) := by decide +kernel
theorem dX5_readNumbers_18 : decode cX5_readNumbers 18 = .ok (.invokevirtual 234, 3) := by decide +kernel
theorem dX5_readNumbers_21 : decode cX5_readNumbers 21 = .ok (.aload_n 0, 1) := by decide +kernel
theorem dX5_readNumbers_22 : decode cX5_readNumbers 22 = .ok (.getfield 37, 3) := by decide +kernel
theorem dX5_readNumbers_25 : decode cX5_readNumbers 25 = .ok (.getfield 238, 3) := by decide +kernel
theorem dX5_readNumbers_28 : decode cX5_readNumbers 28 = .ok (.ireturn, 1) := by decide +kernel
theorem dX5_readAt_0 : decode cX5_readAt 0 = .ok (.aload_n 0, 1) := by decide +kernel
theorem dX5_readAt_1 : decode cX5_readAt 1 = .ok (.getfield 37, 3) := by decide +kernel
theorem dX5_readAt_4 : decode cX5_readAt 4 = .ok (.aload_n 0, 1) := by decide +kernel
theorem dX5_readAt_5 : decode cX5_readAt 5 = .ok (.getfield 10, 3) := by decide +kernel
theorem dX5_readAt_8 : decode cX5_readAt 8 = .ok (.getfield 129, 3) := by decide +kernel
theorem dX5_readAt_11 : decode cX5_readAt 11 = .ok (.aload_n 0, 1) := by decide +kernel
theorem dX5_readAt_12 : decode cX5_readAt 12 = .ok (.getfield 10, 3) := by decide +kernel
theorem dX5_readAt_15 : decode cX5_readAt 15 = .ok (.getfield 119, 3) := by decide +kernel
theorem dX5_readAt_18 : decode cX5_readAt 18 = .ok (.invokevirtual 234, 3) := by decide +kernel
theorem dX5_readAt_21 : decode cX5_readAt 21 = .ok (.iload_n 1, 1) := by decide +kernel
theorem dX5_readAt_22 : decode cX5_readAt 22 = .ok (.ifCond .lt 14, 3) := by decide +kernel
theorem dX5_readAt_25 : decode cX5_readAt 25 = .ok (.iload_n 1, 1) := by decide +kernel
theorem dX5_readAt_26 : decode cX5_readAt 26 = .ok (.aload_n 0, 1) := by decide +kernel
theorem dX5_readAt_27 : decode cX5_readAt 27 = .ok (.getfield 37, 3) := by decide +kernel
theorem dX5_readAt_30 : decode cX5_readAt 30 = .ok (.getfield 238, 3) := by decide +kernel
theorem dX5_readAt_33 : decode cX5_readAt 33 = .ok (.if_icmp .lt 13, 3) := by decide +kernel
theorem dX5_readAt_36 : decode cX5_readAt 36 = .ok (.new 191, 3) := by decide +kernel
theorem dX5_readAt_39 : decode cX5_readAt 39 = .ok (.dup, 1) := by decide +kernel
theorem dX5_readAt_40 : decode cX5_readAt 40 = .ok (.ldc 241, 2) := by decide +kernel
theorem dX5_readAt_42 : decode cX5_readAt 42 = .ok (.invokespecial 195, 3) := by decide +kernel
theorem dX5_readAt_45 : decode cX5_readAt 45 = .ok (.athrow, 1) := by decide +kernel
theorem dX5_readAt_46 : decode cX5_readAt 46 = .ok (.aload_n 0, 1) := by decide +kernel
theorem dX5_readAt_47 : decode cX5_readAt 47 = .ok (.getfield 37, 3) := by decide +kernel
theorem dX5_readAt_50 : decode cX5_readAt 50 = .ok (.iload_n 1, 1) := by decide +kernel
theorem dX5_readAt_51 : decode cX5_readAt 51 = .ok (.invokevirtual 243, 3) := by decide +kernel
theorem dX5_readAt_54 : decode cX5_readAt 54 = .ok (.ireturn, 1) := by decide +kernel
theorem dX5_errors_0 : decode cX5_errors 0 = .ok (.aload_n 0, 1) := by decide +kernel
theorem dX5_errors_1 : decode cX5_errors 1 = .ok (.getfield 37, 3) := by decide +kernel
theorem dX5_errors_4 : decode cX5_errors 4 = .ok (.aload_n 0, 1) := by decide +kernel
theorem dX5_errors_5 : decode cX5_errors 5 = .ok (.getfield 10, 3) := by decide +kernel
theorem dX5_errors_8 : decode cX5_errors 8 = .ok (.getfield 129, 3) := by decide +kernel
theorem dX5_errors_11 : decode cX5_errors 11 = .ok (.aload_n 0, 1) := by decide +kernel
theorem dX5_errors_12 : decode cX5_errors 12 = .ok (.getfield 10, 3) := by decide +kernel
theorem dX5_errors_15 : decode cX5_errors 15 = .ok (.getfield 119, 3) := by decide +kernel
theorem dX5_errors_18 : decode cX5_errors 18 = .ok (.invokevirtual 234, 3) := by decide +kernel
theorem dX5_errors_21 : decode cX5_errors 21 = .ok (.aload_n 0, 1) := by decide +kernel
theorem dX5_errors_22 : decode cX5_errors 22 = .ok (.getfield 37, 3) := by decide +kernel
theorem dX5_errors_25 : decode cX5_errors 25 = .ok (.getfield 246, 3) := by decide +kernel
theorem dX5_errors_28 : decode cX5_errors 28 = .ok (.ireturn, 1) := by decide +kernel
theorem dX5_looseDigits_0 : decode cX5_looseDigits 0 = .ok (.aload_n 0, 1) := by decide +kernel
theorem dX5_looseDigits_1 : decode cX5_looseDigits 1 = .ok (.getfield 37, 3) := by decide +kernel
theorem dX5_looseDigits_4 : decode cX5_looseDigits 4 = .ok (.aload_n 0, 1) := by decide +kernel
theorem dX5_looseDigits_5 : decode cX5_looseDigits 5 = .ok (.getfield 10, 3) := by decide +kernel
theorem dX5_looseDigits_8 : decode cX5_looseDigits 8 = .ok (.getfield 129, 3) := by decide +kernel
theorem dX5_looseDigits_11 : decode cX5_looseDigits 11 = .ok (.aload_n 0, 1) := by decide +kernel
theorem dX5_looseDigits_12 : decode cX5_looseDigits 12 = .ok (.getfield 10, 3) := by decide +kernel
theorem dX5_looseDigits_15 : decode cX5_looseDigits 15 = .ok (.getfield 119, 3) := by decide +kernel
theorem dX5_looseDigits_18 : decode cX5_looseDigits 18 = .ok (.invokevirtual 234, 3) := by decide +kernel
theorem dX5_looseDigits_21 : decode cX5_looseDigits 21 = .ok (.aload_n 0, 1) := by decide +kernel
theorem dX5_looseDigits_22 : decode cX5_looseDigits 22 = .ok (.getfield 37, 3) := by decide +kernel
theorem dX5_looseDigits_25 : decode cX5_looseDigits 25 = .ok (.getfield 249, 3) := by decide +kernel
theorem dX5_looseDigits_28 : decode cX5_looseDigits 28 = .ok (.ireturn, 1) := by decide +kernel
theorem dX5_codeLength_0 : decode cX5_codeLength 0 = .ok (.iload_n 1, 1) := by decide +kernel
theorem dX5_codeLength_1 : decode cX5_codeLength 1 = .ok (.invokestatic 101, 3) := by decide +kernel
theorem dX5_codeLength_4 : decode cX5_codeLength 4 = .ok (.iload_n 1, 1) := by decide +kernel
theorem dX5_codeLength_5 : decode cX5_codeLength 5 = .ok (.invokestatic 89, 3) := by decide +kernel
theorem dX5_codeLength_8 : decode cX5_codeLength 8 = .ok (.invokestatic 255, 3) := by decide +kernel
theorem dX5_codeLength_11 : decode cX5_codeLength 11 = .ok (.ireturn, 1) := by decide +kernel
theorem dX5_sparseShare_0 : decode cX5_sparseShare 0 = .ok (.iconst 0, 1) := by decide +kernel
theorem dX5_sparseShare_1 : decode cX5_sparseShare 1 = .ok (.istore_n 1, 1) := by decide +kernel
theorem dX5_sparseShare_2 : decode cX5_sparseShare 2 = .ok (.iconst 0, 1) := by decide +kernel
theorem dX5_sparseShare_3 : decode cX5_sparseShare 3 = .ok (.istore_n 2, 1) := by decide +kernel
theorem dX5_sparseShare_4 : decode cX5_sparseShare 4 = .ok (.iconst 0, 1) := by decide +kernel
theorem dX5_sparseShare_5 : decode cX5_sparseShare 5 = .ok (.istore_n 3, 1) := by decide +kernel
theorem dX5_sparseShare_6 : decode cX5_sparseShare 6 = .ok (.iload_n 3, 1) := by decide +kernel
theorem dX5_sparseShare_7 : decode cX5_sparseShare 7 = .ok (.bipush 6, 2) := by decide +kernel
theorem dX5_sparseShare_9 : decode cX5_sparseShare 9 = .ok (.if_icmp .ge 43, 3) := by decide +kernel
theorem dX5_sparseShare_12 : decode cX5_sparseShare 12 = .ok (.iload_n 1, 1) := by decide +kernel
theorem dX5_sparseShare_13 : decode cX5_sparseShare 13 = .ok (.aload_n 0, 1) := by decide +kernel
theorem dX5_sparseShare_14 : decode cX5_sparseShare 14 = .ok (.getfield 10, 3) := by decide +kernel
theorem dX5_sparseShare_17 : decode cX5_sparseShare 17 = .ok (.iload_n 3, 1) := by decide +kernel
theorem dX5_sparseShare_18 : decode cX5_sparseShare 18 = .ok (.invokevirtual 65, 3) := by decide +kernel
theorem dX5_sparseShare_21 : decode cX5_sparseShare 21 = .ok (.invokestatic 89, 3) := by decide +kernel
theorem dX5_sparseShare_24 : decode cX5_sparseShare 24 = .ok (.invokestatic 220, 3) := by decide +kernel
theorem dX5_sparseShare_27 : decode cX5_sparseShare 27 = .ok (.iadd, 1) := by decide +kernel
theorem dX5_sparseShare_28 : decode cX5_sparseShare 28 = .ok (.istore_n 1, 1) := by decide +kernel
theorem dX5_sparseShare_29 : decode cX5_sparseShare 29 = .ok (.iload_n 2, 1) := by decide +kernel
theorem dX5_sparseShare_30 : decode cX5_sparseShare 30 = .ok (.aload_n 0, 1) := by decide +kernel
theorem dX5_sparseShare_31 : decode cX5_sparseShare 31 = .ok (.getfield 10, 3) := by decide +kernel
theorem dX5_sparseShare_34 : decode cX5_sparseShare 34 = .ok (.iload_n 3, 1) := by decide +kernel
theorem dX5_sparseShare_35 : decode cX5_sparseShare 35 = .ok (.invokevirtual 65, 3) := by decide +kernel
theorem dX5_sparseShare_38 : decode cX5_sparseShare 38 = .ok (.invokestatic 208, 3) := by decide +kernel
theorem dX5_sparseShare_41 : decode cX5_sparseShare 41 = .ok (.invokestatic 220, 3) := by decide +kernel
theorem dX5_sparseShare_44 : decode cX5_sparseShare 44 = .ok (.iadd, 1) := by decide +kernel
theorem dX5_sparseShare_45 : decode cX5_sparseShare 45 = .ok (.istore_n 2, 1) := by decide +kernel
theorem dX5_sparseShare_46 : decode cX5_sparseShare 46 = .ok (.iinc 3 1, 3) := by decide +kernel
theorem dX5_sparseShare_49 : decode cX5_sparseShare 49 = .ok (.goto (-43), 3) := by decide +kernel
theorem dX5_sparseShare_52 : decode cX5_sparseShare 52 = .ok (.iload_n 2, 1) := by decide +kernel
theorem dX5_sparseShare_53 : decode cX5_sparseShare 53 = .ok (.ifCond .ne 5, 3) := by decide +kernel
theorem dX5_sparseShare_56 : decode cX5_sparseShare 56 = .ok (.dconst 1, 1) := by decide +kernel
theorem dX5_sparseShare_57 : decode cX5_sparseShare 57 = .ok (.dreturn, 1) := by decide +kernel
theorem dX5_sparseShare_58 : decode cX5_sparseShare 58 = .ok (.iload_n 1, 1) := by decide +kernel
theorem dX5_sparseShare_59 : decode cX5_sparseShare 59 = .ok (.i2d, 1) := by decide +kernel
theorem dX5_sparseShare_60 : decode cX5_sparseShare 60 = .ok (.iload_n 2, 1) := by decide +kernel
theorem dX5_sparseShare_61 : decode cX5_sparseShare 61 = .ok (.i2d, 1) := by decide +kernel
theorem dX5_sparseShare_62 : decode cX5_sparseShare 62 = .ok (.ddiv, 1) := by decide +kernel
theorem dX5_sparseShare_63 : decode cX5_sparseShare 63 = .ok (.dreturn, 1) := by decide +kernel
theorem dX5_checkStall_0 : decode cX5_checkStall 0 = .ok (.iload_n 0, 1) := by decide +kernel
theorem dX5_checkStall_1 : decode cX5_checkStall 1 = .ok (.ifCond .lt 9, 3) := by decide +kernel
theorem dX5_checkStall_4 : decode cX5_checkStall 4 = .ok (.iload_n 0, 1) := by decide +kernel
theorem dX5_checkStall_5 : decode cX5_checkStall 5 = .ok (.bipush 6, 2) := by decide +kernel
theorem dX5_checkStall_7 : decode cX5_checkStall 7 = .ok (.if_icmp .lt 14, 3) := by decide +kernel
theorem dX5_checkStall_10 : decode cX5_checkStall 10 = .ok (.new 191, 3) := by decide +kernel
theorem dX5_checkStall_13 : decode cX5_checkStall 13 = .ok (.dup, 1) := by decide +kernel
theorem dX5_checkStall_14 : decode cX5_checkStall 14 = .ok (.ldc_w 295, 3) := by decide +kernel
theorem dX5_checkStall_17 : decode cX5_checkStall 17 = .ok (.invokespecial 195, 3) := by decide +kernel
theorem dX5_checkStall_20 : decode cX5_checkStall 20 = .ok (.athrow, 1) := by decide +kernel
theorem dX5_checkStall_21 : decode cX5_checkStall 21 = .ok (.return_, 1) := by decide +kernel
theorem dX5_checkTribe_0 : decode cX5_checkTribe 0 = .ok (.iload_n 0, 1) := by decide +kernel
theorem dX5_checkTribe_1 : decode cX5_checkTribe 1 = .ok (.ifCond .lt 8, 3) := by decide +kernel
theorem dX5_checkTribe_4 : decode cX5_checkTribe 4 = .ok (.iload_n 0, 1) := by decide +kernel
theorem dX5_checkTribe_5 : decode cX5_checkTribe 5 = .ok (.iconst 3, 1) := by decide +kernel
theorem dX5_checkTribe_6 : decode cX5_checkTribe 6 = .ok (.if_icmp .lt 14, 3) := by decide +kernel
theorem dX5_checkTribe_9 : decode cX5_checkTribe 9 = .ok (.new 191, 3) := by decide +kernel
theorem dX5_checkTribe_12 : decode cX5_checkTribe 12 = .ok (.dup, 1) := by decide +kernel
theorem dX5_checkTribe_13 : decode cX5_checkTribe 13 = .ok (.ldc_w 297, 3) := by decide +kernel
theorem dX5_checkTribe_16 : decode cX5_checkTribe 16 = .ok (.invokespecial 195, 3) := by decide +kernel
theorem dX5_checkTribe_19 : decode cX5_checkTribe 19 = .ok (.athrow, 1) := by decide +kernel
theorem dX5_checkTribe_20 : decode cX5_checkTribe 20 = .ok (.return_, 1) := by decide +kernel
theorem dX5_checkNumber_0 : decode cX5_checkNumber 0 = .ok (.iload_n 0, 1) := by decide +kernel
theorem dX5_checkNumber_1 : decode cX5_checkNumber 1 = .ok (.ifCond .lt 10, 3) := by decide +kernel
theorem dX5_checkNumber_4 : decode cX5_checkNumber 4 = .ok (.iload_n 0, 1) := by decide +kernel
theorem dX5_checkNumber_5 : decode cX5_checkNumber 5 = .ok (.sipush 6764, 3) := by decide +kernel
theorem dX5_checkNumber_8 : decode cX5_checkNumber 8 = .ok (.if_icmp .le 14, 3) := by decide +kernel
theorem dX5_checkNumber_11 : decode cX5_checkNumber 11 = .ok (.new 104, 3) := by decide +kernel
theorem dX5_checkNumber_14 : decode cX5_checkNumber 14 = .ok (.dup, 1) := by decide +kernel
theorem dX5_checkNumber_15 : decode cX5_checkNumber 15 = .ok (.ldc_w 299, 3) := by decide +kernel
theorem dX5_checkNumber_18 : decode cX5_checkNumber 18 = .ok (.invokespecial 108, 3) := by decide +kernel
theorem dX5_checkNumber_21 : decode cX5_checkNumber 21 = .ok (.athrow, 1) := by decide +kernel
theorem dX5_checkNumber_22 : decode cX5_checkNumber 22 = .ok (.return_, 1) := by decide +kernel
theorem dX5_checkNumberFromOne_0 : decode cX5_checkNumberFromOne 0 = .ok (.iload_n 0, 1) := by decide +kernel
theorem dX5_checkNumberFromOne_1 : decode cX5_checkNumberFromOne 1 = .ok (.iconst 1, 1) := by decide +kernel
theorem dX5_checkNumberFromOne_2 : decode cX5_checkNumberFromOne 2 = .ok (.if_icmp .lt 10, 3) := by decide +kernel
theorem dX5_checkNumberFromOne_5 : decode cX5_checkNumberFromOne 5 = .ok (.iload_n 0, 1) := by decide +kernel
theorem dX5_checkNumberFromOne_6 : decode cX5_checkNumberFromOne 6 = .ok (.sipush 6764, 3) := by decide +kernel
theorem dX5_checkNumberFromOne_9 : decode cX5_checkNumberFromOne 9 = .ok (.if_icmp .le 14, 3) := by decide +kernel
theorem dX5_checkNumberFromOne_12 : decode cX5_checkNumberFromOne 12 = .ok (.new 104, 3) := by decide +kernel
theorem dX5_checkNumberFromOne_15 : decode cX5_checkNumberFromOne 15 = .ok (.dup, 1) := by decide +kernel
theorem dX5_checkNumberFromOne_16 : decode cX5_checkNumberFromOne 16 = .ok (.ldc_w 301, 3) := by decide +kernel
theorem dX5_checkNumberFromOne_19 : decode cX5_checkNumberFromOne 19 = .ok (.invokespecial 108, 3) := by decide +kernel
theorem dX5_checkNumberFromOne_22 : decode cX5_checkNumberFromOne 22 = .ok (.athrow, 1) := by decide +kernel
theorem dX5_checkNumberFromOne_23 : decode cX5_checkNumberFromOne 23 = .ok (.return_, 1) := by decide +kernel
theorem dX5_checkDigit_0 : decode cX5_checkDigit 0 = .ok (.iload_n 1, 1) := by decide +kernel
theorem dX5_checkDigit_1 : decode cX5_checkDigit 1 = .ok (.ifCond .lt 14, 3) := by decide +kernel
theorem dX5_checkDigit_4 : decode cX5_checkDigit 4 = .ok (.iload_n 1, 1) := by decide +kernel
theorem dX5_checkDigit_5 : decode cX5_checkDigit 5 = .ok (.aload_n 0, 1) := by decide +kernel
theorem dX5_checkDigit_6 : decode cX5_checkDigit 6 = .ok (.getfield 10, 3) := by decide +kernel
theorem dX5_checkDigit_9 : decode cX5_checkDigit 9 = .ok (.getfield 119, 3) := by decide +kernel
theorem dX5_checkDigit_12 : decode cX5_checkDigit 12 = .ok (.if_icmp .lt 14, 3) := by decide +kernel
theorem dX5_checkDigit_15 : decode cX5_checkDigit 15 = .ok (.new 191, 3) := by decide +kernel
theorem dX5_checkDigit_18 : decode cX5_checkDigit 18 = .ok (.dup, 1) := by decide +kernel
theorem dX5_checkDigit_19 : decode cX5_checkDigit 19 = .ok (.ldc_w 303, 3) := by decide +kernel
theorem dX5_checkDigit_22 : decode cX5_checkDigit 22 = .ok (.invokespecial 195, 3) := by decide +kernel
theorem dX5_checkDigit_25 : decode cX5_checkDigit 25 = .ok (.athrow, 1) := by decide +kernel
theorem dX5_checkDigit_26 : decode cX5_checkDigit 26 = .ok (.return_, 1) := by decide +kernel
theorem dX5_checkStopped_0 : decode cX5_checkStopped 0 = .ok (.aload_n 0, 1) := by decide +kernel
theorem dX5_checkStopped_1 : decode cX5_checkStopped 1 = .ok (.getfield 10, 3) := by decide +kernel
theorem dX5_checkStopped_4 : decode cX5_checkStopped 4 = .ok (.getfield 164, 3) := by decide +kernel
theorem dX5_checkStopped_7 : decode cX5_checkStopped 7 = .ok (.iconst (-1), 1) := by decide +kernel
theorem dX5_checkStopped_8 : decode cX5_checkStopped 8 = .ok (.if_icmp .ne 14, 3) := by decide +kernel
theorem dX5_checkStopped_11 : decode cX5_checkStopped 11 = .ok (.new 76, 3) := by decide +kernel
theorem dX5_checkStopped_14 : decode cX5_checkStopped 14 = .ok (.dup, 1) := by decide +kernel
theorem dX5_checkStopped_15 : decode cX5_checkStopped 15 = .ok (.ldc_w 305, 3) := by decide +kernel
theorem dX5_checkStopped_18 : decode cX5_checkStopped 18 = .ok (.invokespecial 80, 3) := by decide +kernel
theorem dX5_checkStopped_21 : decode cX5_checkStopped 21 = .ok (.athrow, 1) := by decide +kernel
theorem dX5_checkStopped_22 : decode cX5_checkStopped 22 = .ok (.return_, 1) := by decide +kernel
theorem dX5_saveNow_0 : decode cX5_saveNow 0 = .ok (.aload_n 0, 1) := by decide +kernel
theorem dX5_saveNow_1 : decode cX5_saveNow 1 = .ok (.getfield 173, 3) := by decide +kernel
theorem dX5_saveNow_4 : decode cX5_saveNow 4 = .ok (.iconst 5, 1) := by decide +kernel
theorem dX5_saveNow_5 : decode cX5_saveNow 5 = .ok (.if_icmp .lt 7, 3) := by decide +kernel
theorem dX5_saveNow_8 : decode cX5_saveNow 8 = .ok (.aload_n 0, 1) := by decide +kernel
theorem dX5_saveNow_9 : decode cX5_saveNow 9 = .ok (.invokevirtual 307, 3) := by decide +kernel
theorem dX5_saveNow_12 : decode cX5_saveNow 12 = .ok (.aload_n 0, 1) := by decide +kernel
theorem dX5_saveNow_13 : decode cX5_saveNow 13 = .ok (.getfield 173, 3) := by decide +kernel
theorem dX5_saveNow_16 : decode cX5_saveNow 16 = .ok (.ifCond .lt 41, 3) := by decide +kernel
theorem dX5_saveNow_19 : decode cX5_saveNow 19 = .ok (.aload_n 0, 1) := by decide +kernel
theorem dX5_saveNow_20 : decode cX5_saveNow 20 = .ok (.getfield 173, 3) := by decide +kernel
theorem dX5_saveNow_23 : decode cX5_saveNow 23 = .ok (.aload_n 0, 1) := by decide +kernel
theorem dX5_saveNow_24 : decode cX5_saveNow 24 = .ok (.getfield 19, 3) := by decide +kernel
theorem dX5_saveNow_27 : decode cX5_saveNow 27 = .ok (.arraylength, 1) := by decide +kernel
theorem dX5_saveNow_28 : decode cX5_saveNow 28 = .ok (.if_icmp .ge 29, 3) := by decide +kernel
theorem dX5_saveNow_31 : decode cX5_saveNow 31 = .ok (.aload_n 0, 1) := by decide +kernel
theorem dX5_saveNow_32 : decode cX5_saveNow 32 = .ok (.getfield 10, 3) := by decide +kernel
theorem dX5_saveNow_35 : decode cX5_saveNow 35 = .ok (.aload_n 0, 1) := by decide +kernel
theorem dX5_saveNow_36 : decode cX5_saveNow 36 = .ok (.getfield 19, 3) := by decide +kernel
theorem dX5_saveNow_39 : decode cX5_saveNow 39 = .ok (.aload_n 0, 1) := by decide +kernel
theorem dX5_saveNow_40 : decode cX5_saveNow 40 = .ok (.getfield 173, 3) := by decide +kernel
theorem dX5_saveNow_43 : decode cX5_saveNow 43 = .ok (.aaload, 1) := by decide +kernel
theorem dX5_saveNow_44 : decode cX5_saveNow 44 = .ok (.invokestatic 178, 3) := by decide +kernel
theorem dX5_saveNow_47 : decode cX5_saveNow 47 = .ok (.aload_n 0, 1) := by decide +kernel
theorem dX5_saveNow_48 : decode cX5_saveNow 48 = .ok (.dup, 1) := by decide +kernel
theorem dX5_saveNow_49 : decode cX5_saveNow 49 = .ok (.getfield 173, 3) := by decide +kernel
theorem dX5_saveNow_52 : decode cX5_saveNow 52 = .ok (.iconst 1, 1) := by decide +kernel
theorem dX5_saveNow_53 : decode cX5_saveNow 53 = .ok (.iadd, 1) := by decide +kernel
theorem dX5_saveNow_54 : decode cX5_saveNow 54 = .ok (.putfield 173, 3) := by decide +kernel
theorem dX5_saveNow_57 : decode cX5_saveNow 57 = .ok (.return_, 1) := by decide +kernel
theorem dX5_dropOldest_0 : decode cX5_dropOldest 0 = .ok (.iconst 1, 1) := by decide +kernel
theorem dX5_dropOldest_1 : decode cX5_dropOldest 1 = .ok (.istore_n 1, 1) := by decide +kernel
theorem dX5_dropOldest_2 : decode cX5_dropOldest 2 = .ok (.iload_n 1, 1) := by decide +kernel
theorem dX5_dropOldest_3 : decode cX5_dropOldest 3 = .ok (.aload_n 0, 1) := by decide +kernel
theorem dX5_dropOldest_4 : decode cX5_dropOldest 4 = .ok (.getfield 19, 3) := by decide +kernel
theorem dX5_dropOldest_7 : decode cX5_dropOldest 7 = .ok (.arraylength, 1) := by decide +kernel
theorem dX5_dropOldest_8 : decode cX5_dropOldest 8 = .ok (.if_icmp .ge 39, 3) := by decide +kernel
theorem dX5_dropOldest_11 : decode cX5_dropOldest 11 = .ok (.aload_n 0, 1) := by decide +kernel
theorem dX5_dropOldest_12 : decode cX5_dropOldest 12 = .ok (.getfield 19, 3) := by decide +kernel
theorem dX5_dropOldest_15 : decode cX5_dropOldest 15 = .ok (.iload_n 1, 1) := by decide +kernel
theorem dX5_dropOldest_16 : decode cX5_dropOldest 16 = .ok (.iconst 1, 1) := by decide +kernel
theorem dX5_dropOldest_17 : decode cX5_dropOldest 17 = .ok (.isub, 1) := by decide +kernel
theorem dX5_dropOldest_18 : decode cX5_dropOldest 18 = .ok (.aaload, 1) := by decide +kernel
theorem dX5_dropOldest_19 : decode cX5_dropOldest 19 = .ok (.astore_n 2, 1) := by decide +kernel
theorem dX5_dropOldest_20 : decode cX5_dropOldest 20 = .ok (.aload_n 0, 1) := by decide +kernel
theorem dX5_dropOldest_21 : decode cX5_dropOldest 21 = .ok (.getfield 19, 3) := by decide +kernel
theorem dX5_dropOldest_24 : decode cX5_dropOldest 24 = .ok (.iload_n 1, 1) := by decide +kernel
theorem dX5_dropOldest_25 : decode cX5_dropOldest 25 = .ok (.iconst 1, 1) := by decide +kernel
theorem dX5_dropOldest_26 : decode cX5_dropOldest 26 = .ok (.isub, 1) := by decide +kernel
theorem dX5_dropOldest_27 : decode cX5_dropOldest 27 = .ok (.aload_n 0, 1) := by decide +kernel
theorem dX5_dropOldest_28 : decode cX5_dropOldest 28 = .ok (.getfield 19, 3) := by decide +kernel
theorem dX5_dropOldest_31 : decode cX5_dropOldest 31 = .ok (.iload_n 1, 1) := by decide +kernel
theorem dX5_dropOldest_32 : decode cX5_dropOldest 32 = .ok (.aaload, 1) := by decide +kernel
theorem dX5_dropOldest_33 : decode cX5_dropOldest 33 = .ok (.aastore, 1) := by decide +kernel
theorem dX5_dropOldest_34 : decode cX5_dropOldest 34 = .ok (.aload_n 0, 1) := by decide +kernel
theorem dX5_dropOldest_35 : decode cX5_dropOldest 35 = .ok (.getfield 19, 3) := by decide +kernel
theorem dX5_dropOldest_38 : decode cX5_dropOldest 38 = .ok (.iload_n 1, 1) := by decide +kernel
theorem dX5_dropOldest_39 : decode cX5_dropOldest 39 = .ok (.aload_n 2, 1) := by decide +kernel
theorem dX5_dropOldest_40 : decode cX5_dropOldest 40 = .ok (.aastore, 1) := by decide +kernel
theorem dX5_dropOldest_41 : decode cX5_dropOldest 41 = .ok (.iinc 1 1, 3) := by decide +kernel
theorem dX5_dropOldest_44 : decode cX5_dropOldest 44 = .ok (.goto (-42), 3) := by decide +kernel
theorem dX5_dropOldest_47 : decode cX5_dropOldest 47 = .ok (.aload_n 0, 1) := by decide +kernel
theorem dX5_dropOldest_48 : decode cX5_dropOldest 48 = .ok (.aload_n 0, 1) := by decide +kernel
theorem dX5_dropOldest_49 : decode cX5_dropOldest 49 = .ok (.getfield 19, 3) := by decide +kernel
theorem dX5_dropOldest_52 : decode cX5_dropOldest 52 = .ok (.arraylength, 1) := by decide +kernel
theorem dX5_dropOldest_53 : decode cX5_dropOldest 53 = .ok (.iconst 1, 1) := by decide +kernel
theorem dX5_dropOldest_54 : decode cX5_dropOldest 54 = .ok (.isub, 1) := by decide +kernel
theorem dX5_dropOldest_55 : decode cX5_dropOldest 55 = .ok (.putfield 173, 3) := by decide +kernel
theorem dX5_dropOldest_58 : decode cX5_dropOldest 58 = .ok (.return_, 1) := by decide +kernel
theorem dX5_copyState_0 : decode cX5_copyState 0 = .ok (.aload_n 0, 1) := by decide +kernel
theorem dX5_copyState_1 : decode cX5_copyState 1 = .ok (.ifnull 12, 3) := by decide +kernel
theorem dX5_copyState_4 : decode cX5_copyState 4 = .ok (.aload_n 1, 1) := by decide +kernel
theorem dX5_copyState_5 : decode cX5_copyState 5 = .ok (.ifnull 8, 3) := by decide +kernel
theorem dX5_copyState_8 : decode cX5_copyState 8 = .ok (.aload_n 1, 1) := by decide +kernel
theorem dX5_copyState_9 : decode cX5_copyState 9 = .ok (.aload_n 0, 1) := by decide +kernel
theorem dX5_copyState_10 : decode cX5_copyState 10 = .ok (.invokevirtual 310, 3) := by decide +kernel
theorem dX5_copyState_13 : decode cX5_copyState 13 = .ok (.return_, 1) := by decide +kernel
theorem dX5_worth_0 : decode cX5_worth 0 = .ok (.iload_n 0, 1) := by decide +kernel
theorem dX5_worth_1 : decode cX5_worth 1 = .ok (.ifCond .lt 19, 3) := by decide +kernel
theorem dX5_worth_4 : decode cX5_worth 4 = .ok (.iload_n 0, 1) := by decide +kernel
theorem dX5_worth_5 : decode cX5_worth 5 = .ok (.getstatic 314, 3) := by decide +kernel
theorem dX5_worth_8 : decode cX5_worth 8 = .ok (.arraylength, 1) := by decide +kernel
theorem dX5_worth_9 : decode cX5_worth 9 = .ok (.if_icmp .ge 11, 3) := by decide +kernel
theorem dX5_worth_12 : decode cX5_worth 12 = .ok (.getstatic 314, 3) := by decide +kernel
theorem dX5_worth_15 : decode cX5_worth 15 = .ok (.iload_n 0, 1) := by decide +kernel
theorem dX5_worth_16 : decode cX5_worth 16 = .ok (.iaload, 1) := by decide +kernel
theorem dX5_worth_17 : decode cX5_worth 17 = .ok (.goto 4, 3) := by decide +kernel
theorem dX5_worth_20 : decode cX5_worth 20 = .ok (.iconst 0, 1) := by decide +kernel
theorem dX5_worth_21 : decode cX5_worth 21 = .ok (.ireturn, 1) := by decide +kernel
theorem dX5_hasStep_0 : decode cX5_hasStep 0 = .ok (.iload_n 0, 1) := by decide +kernel
theorem dX5_hasStep_1 : decode cX5_hasStep 1 = .ok (.iload_n 1, 1) := by decide +kernel
theorem dX5_hasStep_2 : decode cX5_hasStep 2 = .ok (.ishr, 1) := by decide +kernel
theorem dX5_hasStep_3 : decode cX5_hasStep 3 = .ok (.iconst 1, 1) := by decide +kernel
theorem dX5_hasStep_4 : decode cX5_hasStep 4 = .ok (.iand, 1) := by decide +kernel
theorem dX5_hasStep_5 : decode cX5_hasStep 5 = .ok (.iconst 1, 1) := by decide +kernel
theorem dX5_hasStep_6 : decode cX5_hasStep 6 = .ok (.if_icmp .ne 7, 3) := by decide +kernel
theorem dX5_hasStep_9 : decode cX5_hasStep 9 = .ok (.iconst 1, 1) := by decide +kernel
theorem dX5_hasStep_10 : decode cX5_hasStep 10 = .ok (.goto 4, 3) := by decide +kernel
theorem dX5_hasStep_13 : decode cX5_hasStep 13 = .ok (.iconst 0, 1) := by decide +kernel
theorem dX5_hasStep_14 : decode cX5_hasStep 14 = .ok (.ireturn, 1) := by decide +kernel
theorem dX5_worthOfMark_0 : decode cX5_worthOfMark 0 = .ok (.iconst 0, 1) := by decide +kernel
theorem dX5_worthOfMark_1 : decode cX5_worthOfMark 1 = .ok (.istore_n 1, 1) := by decide +kernel
theorem dX5_worthOfMark_2 : decode cX5_worthOfMark 2 = .ok (.iconst 0, 1) := by decide +kernel
theorem dX5_worthOfMark_3 : decode cX5_worthOfMark 3 = .ok (.istore_n 2, 1) := by decide +kernel
theorem dX5_worthOfMark_4 : decode cX5_worthOfMark 4 = .ok (.iload_n 2, 1) := by decide +kernel
theorem dX5_worthOfMark_5 : decode cX5_worthOfMark 5 = .ok (.bipush 18, 2) := by decide +kernel
theorem dX5_worthOfMark_7 : decode cX5_worthOfMark 7 = .ok (.if_icmp .ge 24, 3) := by decide +kernel
theorem dX5_worthOfMark_10 : decode cX5_worthOfMark 10 = .ok (.iload_n 0, 1) := by decide +kernel
theorem dX5_worthOfMark_11 : decode cX5_worthOfMark 11 = .ok (.iload_n 2, 1) := by decide +kernel
theorem dX5_worthOfMark_12 : decode cX5_worthOfMark 12 = .ok (.invokestatic 318, 3) := by decide +kernel
theorem dX5_worthOfMark_15 : decode cX5_worthOfMark 15 = .ok (.ifCond .eq 10, 3) := by decide +kernel
theorem dX5_worthOfMark_18 : decode cX5_worthOfMark 18 = .ok (.iload_n 1, 1) := by decide +kernel
theorem dX5_worthOfMark_19 : decode cX5_worthOfMark 19 = .ok (.iload_n 2, 1) := by decide +kernel
theorem dX5_worthOfMark_20 : decode cX5_worthOfMark 20 = .ok (.invokestatic 196, 3) := by decide +kernel
theorem dX5_worthOfMark_23 : decode cX5_worthOfMark 23 = .ok (.iadd, 1) := by decide +kernel
theorem dX5_worthOfMark_24 : decode cX5_worthOfMark 24 = .ok (.istore_n 1, 1) := by decide +kernel
theorem dX5_worthOfMark_25 : decode cX5_worthOfMark 25 = .ok (.iinc 2 1, 3) := by decide +kernel
theorem dX5_worthOfMark_28 : decode cX5_worthOfMark 28 = .ok (.goto (-24), 3) := by decide +kernel
theorem dX5_worthOfMark_31 : decode cX5_worthOfMark 31 = .ok (.iload_n 1, 1) := by decide +kernel
theorem dX5_worthOfMark_32 : decode cX5_worthOfMark 32 = .ok (.ireturn, 1) := by decide +kernel
theorem dX5_greedyMark_0 : decode cX5_greedyMark 0 = .ok (.iconst 0, 1) := by decide +kernel
theorem dX5_greedyMark_1 : decode cX5_greedyMark 1 = .ok (.istore_n 1, 1) := by decide +kernel
theorem dX5_greedyMark_2 : decode cX5_greedyMark 2 = .ok (.iload_n 0, 1) := by decide +kernel
theorem dX5_greedyMark_3 : decode cX5_greedyMark 3 = .ok (.istore_n 2, 1) := by decide +kernel
theorem dX5_greedyMark_4 : decode cX5_greedyMark 4 = .ok (.bipush 17, 2) := by decide +kernel
theorem dX5_greedyMark_6 : decode cX5_greedyMark 6 = .ok (.istore_n 3, 1) := by decide +kernel
theorem dX5_greedyMark_7 : decode cX5_greedyMark 7 = .ok (.iload_n 3, 1) := by decide +kernel
theorem dX5_greedyMark_8 : decode cX5_greedyMark 8 = .ok (.ifCond .lt 30, 3) := by decide +kernel
theorem dX5_greedyMark_11 : decode cX5_greedyMark 11 = .ok (.iload_n 3, 1) := by decide +kernel
theorem dX5_greedyMark_12 : decode cX5_greedyMark 12 = .ok (.invokestatic 196, 3) := by decide +kernel
theorem dX5_greedyMark_15 : decode cX5_greedyMark 15 = .ok (.iload_n 2, 1) := by decide +kernel
theorem dX5_greedyMark_16 : decode cX5_greedyMark 16 = .ok (.if_icmp .gt 16, 3) := by decide +kernel
theorem dX5_greedyMark_19 : decode cX5_greedyMark 19 = .ok (.iload_n 2, 1) := by decide +kernel
theorem dX5_greedyMark_20 : decode cX5_greedyMark 20 = .ok (.iload_n 3, 1) := by decide +kernel
theorem dX5_greedyMark_21 : decode cX5_greedyMark 21 = .ok (.invokestatic 196, 3) := by decide +kernel
theorem dX5_greedyMark_24 : decode cX5_greedyMark 24 = .ok (.isub, 1) := by decide +kernel
theorem dX5_greedyMark_25 : decode cX5_greedyMark 25 = .ok (.istore_n 2, 1) := by decide +kernel
theorem dX5_greedyMark_26 : decode cX5_greedyMark 26 = .ok (.iload_n 1, 1) := by decide +kernel
theorem dX5_greedyMark_27 : decode cX5_greedyMark 27 = .ok (.iconst 1, 1) := by decide +kernel
theorem dX5_greedyMark_28 : decode cX5_greedyMark 28 = .ok (.iload_n 3, 1) := by decide +kernel
theorem dX5_greedyMark_29 : decode cX5_greedyMark 29 = .ok (.ishl, 1) := by decide +kernel
theorem dX5_greedyMark_30 : decode cX5_greedyMark 30 = .ok (.ior, 1) := by decide +kernel
theorem dX5_greedyMark_31 : decode cX5_greedyMark 31 = .ok (.istore_n 1, 1) := by decide +kernel
theorem dX5_greedyMark_32 : decode cX5_greedyMark 32 = .ok (.iinc 3 (-1), 3) := by decide +kernel
theorem dX5_greedyMark_35 : decode cX5_greedyMark 35 = .ok (.goto (-28), 3) := by decide +kernel
theorem dX5_greedyMark_38 : decode cX5_greedyMark 38 = .ok (.iload_n 1, 1) := by decide +kernel
theorem dX5_greedyMark_39 : decode cX5_greedyMark 39 = .ok (.ireturn, 1) := by decide +kernel
theorem dX5_countedMark_0 : decode cX5_countedMark 0 = .ok (.iconst 0, 1) := by decide +kernel
theorem dX5_countedMark_1 : decode cX5_countedMark 1 = .ok (.istore_n 1, 1) := by decide +kernel
theorem dX5_countedMark_2 : decode cX5_countedMark 2 = .ok (.iconst 0, 1) := by decide +kernel
theorem dX5_countedMark_3 : decode cX5_countedMark 3 = .ok (.istore_n 2, 1) := by decide +kernel
theorem dX5_countedMark_4 : decode cX5_countedMark 4 = .ok (.iload_n 2, 1) := by decide +kernel
theorem dX5_countedMark_5 : decode cX5_countedMark 5 = .ok (.iload_n 0, 1) := by decide +kernel
theorem dX5_countedMark_6 : decode cX5_countedMark 6 = .ok (.if_icmp .ge 48, 3) := by decide +kernel
theorem dX5_countedMark_9 : decode cX5_countedMark 9 = .ok (.iinc 1 1, 3) := by decide +kernel
theorem dX5_countedMark_12 : decode cX5_countedMark 12 = .ok (.iload_n 1, 1) := by decide +kernel
theorem dX5_countedMark_13 : decode cX5_countedMark 13 = .ok (.iload_n 1, 1) := by decide +kernel
theorem dX5_countedMark_14 : decode cX5_countedMark 14 = .ok (.iconst 1, 1) := by decide +kernel
theorem dX5_countedMark_15 : decode cX5_countedMark 15 = .ok (.ishr, 1) := by decide +kernel
theorem dX5_countedMark_16 : decode cX5_countedMark 16 = .ok (.iand, 1) := by decide +kernel
theorem dX5_countedMark_17 : decode cX5_countedMark 17 = .ok (.istore_n 3, 1) := by decide +kernel
theorem dX5_countedMark_18 : decode cX5_countedMark 18 = .ok (.iconst 0, 1) := by decide +kernel
theorem dX5_countedMark_19 : decode cX5_countedMark 19 = .ok (.istore 4, 2) := by decide +kernel
theorem dX5_countedMark_21 : decode cX5_countedMark 21 = .ok (.iload 4, 2) := by decide +kernel
theorem dX5_countedMark_23 : decode cX5_countedMark 23 = .ok (.bipush 18, 2) := by decide +kernel
theorem dX5_countedMark_25 : decode cX5_countedMark 25 = .ok (.if_icmp .ge 23, 3) := by decide +kernel
theorem dX5_countedMark_28 : decode cX5_countedMark 28 = .ok (.iload_n 3, 1) := by decide +kernel
theorem dX5_countedMark_29 : decode cX5_countedMark 29 = .ok (.ifCond .eq 19, 3) := by decide +kernel
theorem dX5_countedMark_32 : decode cX5_countedMark 32 = .ok (.iload_n 1, 1) := by decide +kernel
theorem dX5_countedMark_33 : decode cX5_countedMark 33 = .ok (.iload_n 3, 1) := by decide +kernel
theorem dX5_countedMark_34 : decode cX5_countedMark 34 = .ok (.iadd, 1) := by decide +kernel
theorem dX5_countedMark_35 : decode cX5_countedMark 35 = .ok (.istore_n 1, 1) := by decide +kernel
theorem dX5_countedMark_36 : decode cX5_countedMark 36 = .ok (.iload_n 1, 1) := by decide +kernel
theorem dX5_countedMark_37 : decode cX5_countedMark 37 = .ok (.iload_n 1, 1) := by decide +kernel
theorem dX5_countedMark_38 : decode cX5_countedMark 38 = .ok (.iconst 1, 1) := by decide +kernel
theorem dX5_countedMark_39 : decode cX5_countedMark 39 = .ok (.ishr, 1) := by decide +kernel
theorem dX5_countedMark_40 : decode cX5_countedMark 40 = .ok (.iand, 1) := by decide +kernel
theorem dX5_countedMark_41 : decode cX5_countedMark 41 = .ok (.istore_n 3, 1) := by decide +kernel
theorem dX5_countedMark_42 : decode cX5_countedMark 42 = .ok (.iinc 4 1, 3) := by decide +kernel
theorem dX5_countedMark_45 : decode cX5_countedMark 45 = .ok (.goto (-24), 3) := by decide +kernel
theorem dX5_countedMark_48 : decode cX5_countedMark 48 = .ok (.iinc 2 1, 3) := by decide +kernel
theorem dX5_countedMark_51 : decode cX5_countedMark 51 = .ok (.goto (-47), 3) := by decide +kernel
theorem dX5_countedMark_54 : decode cX5_countedMark 54 = .ok (.iload_n 1, 1) := by decide +kernel
theorem dX5_countedMark_55 : decode cX5_countedMark 55 = .ok (.ireturn, 1) := by decide +kernel
theorem dX5_worthBelow_0 : decode cX5_worthBelow 0 = .ok (.iload_n 0, 1) := by decide +kernel
theorem dX5_worthBelow_1 : decode cX5_worthBelow 1 = .ok (.iconst 1, 1) := by decide +kernel
theorem dX5_worthBelow_2 : decode cX5_worthBelow 2 = .ok (.iadd, 1) := by decide +kernel
theorem dX5_worthBelow_3 : decode cX5_worthBelow 3 = .ok (.invokestatic 196, 3) := by decide +kernel
theorem dX5_worthBelow_6 : decode cX5_worthBelow 6 = .ok (.iconst 2, 1) := by decide +kernel
theorem dX5_worthBelow_7 : decode cX5_worthBelow 7 = .ok (.isub, 1) := by decide +kernel
theorem dX5_worthBelow_8 : decode cX5_worthBelow 8 = .ok (.ireturn, 1) := by decide +kernel
theorem dX5_fullMark_0 : decode cX5_fullMark 0 = .ok (.iconst 0, 1) := by decide +kernel
theorem dX5_fullMark_1 : decode cX5_fullMark 1 = .ok (.istore_n 1, 1) := by decide +kernel
theorem dX5_fullMark_2 : decode cX5_fullMark 2 = .ok (.iload_n 0, 1) := by decide +kernel
theorem dX5_fullMark_3 : decode cX5_fullMark 3 = .ok (.istore_n 2, 1) := by decide +kernel
theorem dX5_fullMark_4 : decode cX5_fullMark 4 = .ok (.bipush 17, 2) := by decide +kernel
theorem dX5_fullMark_6 : decode cX5_fullMark 6 = .ok (.istore_n 3, 1) := by decide +kernel
theorem dX5_fullMark_7 : decode cX5_fullMark 7 = .ok (.iload_n 3, 1) := by decide +kernel
theorem dX5_fullMark_8 : decode cX5_fullMark 8 = .ok (.ifCond .lt 30, 3) := by decide +kernel
theorem dX5_fullMark_11 : decode cX5_fullMark 11 = .ok (.iload_n 2, 1) := by decide +kernel
theorem dX5_fullMark_12 : decode cX5_fullMark 12 = .ok (.iload_n 3, 1) := by decide +kernel
theorem dX5_fullMark_13 : decode cX5_fullMark 13 = .ok (.invokestatic 322, 3) := by decide +kernel
theorem dX5_fullMark_16 : decode cX5_fullMark 16 = .ok (.if_icmp .le 16, 3) := by decide +kernel
theorem dX5_fullMark_19 : decode cX5_fullMark 19 = .ok (.iload_n 2, 1) := by decide +kernel
theorem dX5_fullMark_20 : decode cX5_fullMark 20 = .ok (.iload_n 3, 1) := by decide +kernel
theorem dX5_fullMark_21 : decode cX5_fullMark 21 = .ok (.invokestatic 196, 3) := by decide +kernel
theorem dX5_fullMark_24 : decode cX5_fullMark 24 = .ok (.isub, 1) := by decide +kernel
theorem dX5_fullMark_25 : decode cX5_fullMark 25 = .ok (.istore_n 2, 1) := by decide +kernel
theorem dX5_fullMark_26 : decode cX5_fullMark 26 = .ok (.iload_n 1, 1) := by decide +kernel
theorem dX5_fullMark_27 : decode cX5_fullMark 27 = .ok (.iconst 1, 1) := by decide +kernel
theorem dX5_fullMark_28 : decode cX5_fullMark 28 = .ok (.iload_n 3, 1) := by decide +kernel
theorem dX5_fullMark_29 : decode cX5_fullMark 29 = .ok (.ishl, 1) := by decide +kernel
theorem dX5_fullMark_30 : decode cX5_fullMark 30 = .ok (.ior, 1) := by decide +kernel
theorem dX5_fullMark_31 : decode cX5_fullMark 31 = .ok (.istore_n 1, 1) := by decide +kernel
theorem dX5_fullMark_32 : decode cX5_fullMark 32 = .ok (.iinc 3 (-1), 3) := by decide +kernel
theorem dX5_fullMark_35 : decode cX5_fullMark 35 = .ok (.goto (-28), 3) := by decide +kernel
theorem dX5_fullMark_38 : decode cX5_fullMark 38 = .ok (.iload_n 1, 1) := by decide +kernel
theorem dX5_fullMark_39 : decode cX5_fullMark 39 = .ok (.ireturn, 1) := by decide +kernel
theorem dX5_canRaise_0 : decode cX5_canRaise 0 = .ok (.iload_n 0, 1) := by decide +kernel
theorem dX5_canRaise_1 : decode cX5_canRaise 1 = .ok (.bipush 17, 2) := by decide +kernel
theorem dX5_canRaise_3 : decode cX5_canRaise 3 = .ok (.invokestatic 318, 3) := by decide +kernel
theorem dX5_canRaise_6 : decode cX5_canRaise 6 = .ok (.ifCond .ne 7, 3) := by decide +kernel
theorem dX5_canRaise_9 : decode cX5_canRaise 9 = .ok (.iconst 1, 1) := by decide +kernel
theorem dX5_canRaise_10 : decode cX5_canRaise 10 = .ok (.goto 4, 3) := by decide +kernel
theorem dX5_canRaise_13 : decode cX5_canRaise 13 = .ok (.iconst 0, 1) := by decide +kernel
theorem dX5_canRaise_14 : decode cX5_canRaise 14 = .ok (.ireturn, 1) := by decide +kernel
theorem dX5_raisedWorth_0 : decode cX5_raisedWorth 0 = .ok (.iload_n 0, 1) := by decide +kernel
theorem dX5_raisedWorth_1 : decode cX5_raisedWorth 1 = .ok (.iconst 1, 1) := by decide +kernel
theorem dX5_raisedWorth_2 : decode cX5_raisedWorth 2 = .ok (.ishl, 1) := by decide +kernel
theorem dX5_raisedWorth_3 : decode cX5_raisedWorth 3 = .ok (.invokestatic 202, 3) := by decide +kernel
theorem dX5_raisedWorth_6 : decode cX5_raisedWorth 6 = .ok (.ireturn, 1) := by decide +kernel
theorem dX5_waysInTable_0 : decode cX5_waysInTable 0 = .ok (.aload_n 0, 1) := by decide +kernel
theorem dX5_waysInTable_1 : decode cX5_waysInTable 1 = .ok (.getfield 51, 3) := by decide +kernel
theorem dX5_waysInTable_4 : decode cX5_waysInTable 4 = .ok (.astore_n 2, 1) := by decide +kernel
theorem dX5_waysInTable_5 : decode cX5_waysInTable 5 = .ok (.aload_n 0, 1) := by decide +kernel
theorem dX5_waysInTable_6 : decode cX5_waysInTable 6 = .ok (.getfield 55, 3) := by decide +kernel
theorem dX5_waysInTable_9 : decode cX5_waysInTable 9 = .ok (.astore_n 3, 1) := by decide +kernel
theorem dX5_waysInTable_10 : decode cX5_waysInTable 10 = .ok (.aload_n 2, 1) := by decide +kernel
theorem dX5_waysInTable_11 : decode cX5_waysInTable 11 = .ok (.invokevirtual 325, 3) := by decide +kernel
theorem dX5_waysInTable_14 : decode cX5_waysInTable 14 = .ok (.aload_n 2, 1) := by decide +kernel
theorem dX5_waysInTable_15 : decode cX5_waysInTable 15 = .ok (.iload_n 1, 1) := by decide +kernel
theorem dX5_waysInTable_16 : decode cX5_waysInTable 16 = .ok (.iconst 1, 1) := by decide +kernel
theorem dX5_waysInTable_17 : decode cX5_waysInTable 17 = .ok (.invokevirtual 328, 3) := by decide +kernel
theorem dX5_waysInTable_20 : decode cX5_waysInTable 20 = .ok (.bipush 17, 2) := by decide +kernel
theorem dX5_waysInTable_22 : decode cX5_waysInTable 22 = .ok (.istore 4, 2) := by decide +kernel
theorem dX5_waysInTable_24 : decode cX5_waysInTable 24 = .ok (.iload 4, 2) := by decide +kernel
theorem dX5_waysInTable_26 : decode cX5_waysInTable 26 = .ok (.ifCond .lt 28, 3) := by decide +kernel
theorem dX5_waysInTable_29 : decode cX5_waysInTable 29 = .ok (.aload_n 3, 1) := by decide +kernel
theorem dX5_waysInTable_30 : decode cX5_waysInTable 30 = .ok (.invokevirtual 325, 3) := by decide +kernel
theorem dX5_waysInTable_33 : decode cX5_waysInTable 33 = .ok (.aload_n 2, 1) := by decide +kernel
theorem dX5_waysInTable_34 : decode cX5_waysInTable 34 = .ok (.iload 4, 2) := by decide +kernel
theorem dX5_waysInTable_36 : decode cX5_waysInTable 36 = .ok (.aload_n 3, 1) := by decide +kernel
theorem dX5_waysInTable_37 : decode cX5_waysInTable 37 = .ok (.invokevirtual 331, 3) := by decide +kernel
theorem dX5_waysInTable_40 : decode cX5_waysInTable 40 = .ok (.aload_n 2, 1) := by decide +kernel
theorem dX5_waysInTable_41 : decode cX5_waysInTable 41 = .ok (.astore 5, 2) := by decide +kernel
theorem dX5_waysInTable_43 : decode cX5_waysInTable 43 = .ok (.aload_n 3, 1) := by decide +kernel
theorem dX5_waysInTable_44 : decode cX5_waysInTable 44 = .ok (.astore_n 2, 1) := by decide +kernel
theorem dX5_waysInTable_45 : decode cX5_waysInTable 45 = .ok (.aload 5, 2) := by decide +kernel
theorem dX5_waysInTable_47 : decode cX5_waysInTable 47 = .ok (.astore_n 3, 1) := by decide +kernel
theorem dX5_waysInTable_48 : decode cX5_waysInTable 48 = .ok (.iinc 4 (-1), 3) := by decide +kernel
theorem dX5_waysInTable_51 : decode cX5_waysInTable 51 = .ok (.goto (-27), 3) := by decide +kernel
theorem dX5_waysInTable_54 : decode cX5_waysInTable 54 = .ok (.aload_n 2, 1) := by decide +kernel
theorem dX5_waysInTable_55 : decode cX5_waysInTable 55 = .ok (.iconst 0, 1) := by decide +kernel
theorem dX5_waysInTable_56 : decode cX5_waysInTable 56 = .ok (.invokevirtual 335, 3) := by decide +kernel
theorem dX5_waysInTable_59 : decode cX5_waysInTable 59 = .ok (.ireturn, 1) := by decide +kernel
theorem dX5_waysOfMark_0 : decode cX5_waysOfMark 0 = .ok (.iconst 1, 1) := by decide +kernel
theorem dX5_waysOfMark_1 : decode cX5_waysOfMark 1 = .ok (.istore_n 1, 1) := by decide +kernel
theorem dX5_waysOfMark_2 : decode cX5_waysOfMark 2 = .ok (.iconst 0, 1) := by decide +kernel
theorem dX5_waysOfMark_3 : decode cX5_waysOfMark 3 = .ok (.istore_n 2, 1) := by decide +kernel
theorem dX5_waysOfMark_4 : decode cX5_waysOfMark 4 = .ok (.iconst (-1), 1) := by decide +kernel
theorem dX5_waysOfMark_5 : decode cX5_waysOfMark 5 = .ok (.istore_n 3, 1) := by decide +kernel
theorem dX5_waysOfMark_6 : decode cX5_waysOfMark 6 = .ok (.iconst 0, 1) := by decide +kernel
theorem dX5_waysOfMark_7 : decode cX5_waysOfMark 7 = .ok (.istore 4, 2) := by decide +kernel
theorem dX5_waysOfMark_9 : decode cX5_waysOfMark 9 = .ok (.iload 4, 2) := by decide +kernel
theorem dX5_waysOfMark_11 : decode cX5_waysOfMark 11 = .ok (.bipush 18, 2) := by decide +kernel
theorem dX5_waysOfMark_13 : decode cX5_waysOfMark 13 = .ok (.if_icmp .ge 63, 3) := by decide +kernel
theorem dX5_waysOfMark_16 : decode cX5_waysOfMark 16 = .ok (.iload_n 0, 1) := by decide +kernel
theorem dX5_waysOfMark_17 : decode cX5_waysOfMark 17 = .ok (.iload 4, 2) := by decide +kernel
theorem dX5_waysOfMark_19 : decode cX5_waysOfMark 19 = .ok (.invokestatic 318, 3) := by decide +kernel
theorem dX5_waysOfMark_22 : decode cX5_waysOfMark 22 = .ok (.ifCond .eq 48, 3) := by decide +kernel
theorem dX5_waysOfMark_25 : decode cX5_waysOfMark 25 = .ok (.iload_n 3, 1) := by decide +kernel
theorem dX5_waysOfMark_26 : decode cX5_waysOfMark 26 = .ok (.ifCond .ge 11, 3) := by decide +kernel
theorem dX5_waysOfMark_29 : decode cX5_waysOfMark 29 = .ok (.iload 4, 2) := by decide +kernel
theorem dX5_waysOfMark_31 : decode cX5_waysOfMark 31 = .ok (.iconst 2, 1) := by decide +kernel
theorem dX5_waysOfMark_32 : decode cX5_waysOfMark 32 = .ok (.idiv, 1) := by decide +kernel
theorem dX5_waysOfMark_33 : decode cX5_waysOfMark 33 = .ok (.istore_n 2, 1) := by decide +kernel
theorem dX5_waysOfMark_34 : decode cX5_waysOfMark 34 = .ok (.goto 33, 3) := by decide +kernel
theorem dX5_waysOfMark_37 : decode cX5_waysOfMark 37 = .ok (.iload 4, 2) := by decide +kernel
theorem dX5_waysOfMark_39 : decode cX5_waysOfMark 39 = .ok (.iload_n 3, 1) := by decide +kernel
theorem dX5_waysOfMark_40 : decode cX5_waysOfMark 40 = .ok (.isub, 1) := by decide +kernel
theorem dX5_waysOfMark_41 : decode cX5_waysOfMark 41 = .ok (.istore 5, 2) := by decide +kernel
theorem dX5_waysOfMark_43 : decode cX5_waysOfMark 43 = .ok (.iload_n 1, 1) := by decide +kernel
theorem dX5_waysOfMark_44 : decode cX5_waysOfMark 44 = .ok (.iload_n 2, 1) := by decide +kernel
theorem dX5_waysOfMark_45 : decode cX5_waysOfMark 45 = .ok (.iadd, 1) := by decide +kernel
theorem dX5_waysOfMark_46 : decode cX5_waysOfMark 46 = .ok (.istore 6, 2) := by decide +kernel
theorem dX5_waysOfMark_48 : decode cX5_waysOfMark 48 = .ok (.iload_n 1, 1) := by decide +kernel
theorem dX5_waysOfMark_49 : decode cX5_waysOfMark 49 = .ok (.iload 5, 2) := by decide +kernel
theorem dX5_waysOfMark_51 : decode cX5_waysOfMark 51 = .ok (.iconst 1, 1) := by decide +kernel
theorem dX5_waysOfMark_52 : decode cX5_waysOfMark 52 = .ok (.isub, 1) := by decide +kernel
theorem dX5_waysOfMark_53 : decode cX5_waysOfMark 53 = .ok (.iconst 2, 1) := by decide +kernel
theorem dX5_waysOfMark_54 : decode cX5_waysOfMark 54 = .ok (.idiv, 1) := by decide +kernel
theorem dX5_waysOfMark_55 : decode cX5_waysOfMark 55 = .ok (.imul, 1) := by decide +kernel
theorem dX5_waysOfMark_56 : decode cX5_waysOfMark 56 = .ok (.iload_n 2, 1) := by decide +kernel
theorem dX5_waysOfMark_57 : decode cX5_waysOfMark 57 = .ok (.iload 5, 2) := by decide +kernel
theorem dX5_waysOfMark_59 : decode cX5_waysOfMark 59 = .ok (.iconst 2, 1) := by decide +kernel
theorem dX5_waysOfMark_60 : decode cX5_waysOfMark 60 = .ok (.idiv, 1) := by decide +kernel
theorem dX5_waysOfMark_61 : decode cX5_waysOfMark 61 = .ok (.imul, 1) := by decide +kernel
theorem dX5_waysOfMark_62 : decode cX5_waysOfMark 62 = .ok (.iadd, 1) := by decide +kernel
theorem dX5_waysOfMark_63 : decode cX5_waysOfMark 63 = .ok (.istore_n 2, 1) := by decide +kernel
theorem dX5_waysOfMark_64 : decode cX5_waysOfMark 64 = .ok (.iload 6, 2) := by decide +kernel
theorem dX5_waysOfMark_66 : decode cX5_waysOfMark 66 = .ok (.istore_n 1, 1) := by decide +kernel
theorem dX5_waysOfMark_67 : decode cX5_waysOfMark 67 = .ok (.iload 4, 2) := by decide +kernel
theorem dX5_waysOfMark_69 : decode cX5_waysOfMark 69 = .ok (.istore_n 3, 1) := by decide +kernel
theorem dX5_waysOfMark_70 : decode cX5_waysOfMark 70 = .ok (.iinc 4 1, 3) := by decide +kernel
theorem dX5_waysOfMark_73 : decode cX5_waysOfMark 73 = .ok (.goto (-64), 3) := by decide +kernel
theorem dX5_waysOfMark_76 : decode cX5_waysOfMark 76 = .ok (.iload_n 1, 1) := by decide +kernel
theorem dX5_waysOfMark_77 : decode cX5_waysOfMark 77 = .ok (.iload_n 2, 1) := by decide +kernel
theorem dX5_waysOfMark_78 : decode cX5_waysOfMark 78 = .ok (.iadd, 1) := by decide +kernel
theorem dX5_waysOfMark_79 : decode cX5_waysOfMark 79 = .ok (.ireturn, 1) := by decide +kernel
theorem dX5_wordAt_0 : decode cX5_wordAt 0 = .ok (.iload_n 0, 1) := by decide +kernel
theorem dX5_wordAt_1 : decode cX5_wordAt 1 = .ok (.ifCond .ne 16, 3) := by decide +kernel
theorem dX5_wordAt_4 : decode cX5_wordAt 4 = .ok (.iload_n 1, 1) := by decide +kernel
theorem dX5_wordAt_5 : decode cX5_wordAt 5 = .ok (.iload_n 1, 1) := by decide +kernel
theorem dX5_wordAt_6 : decode cX5_wordAt 6 = .ok (.invokestatic 220, 3) := by decide +kernel
theorem dX5_wordAt_9 : decode cX5_wordAt 9 = .ok (.iconst 1, 1) := by decide +kernel
theorem dX5_wordAt_10 : decode cX5_wordAt 10 = .ok (.isub, 1) := by decide +kernel
theorem dX5_wordAt_11 : decode cX5_wordAt 11 = .ok (.iload_n 2, 1) := by decide +kernel
theorem dX5_wordAt_12 : decode cX5_wordAt 12 = .ok (.isub, 1) := by decide +kernel
theorem dX5_wordAt_13 : decode cX5_wordAt 13 = .ok (.invokestatic 338, 3) := by decide +kernel
theorem dX5_wordAt_16 : decode cX5_wordAt 16 = .ok (.ireturn, 1) := by decide +kernel
theorem dX5_wordAt_17 : decode cX5_wordAt 17 = .ok (.iload_n 1, 1) := by decide +kernel
theorem dX5_wordAt_18 : decode cX5_wordAt 18 = .ok (.iload_n 2, 1) := by decide +kernel
theorem dX5_wordAt_19 : decode cX5_wordAt 19 = .ok (.invokestatic 338, 3) := by decide +kernel
theorem dX5_wordAt_22 : decode cX5_wordAt 22 = .ok (.istore_n 3, 1) := by decide +kernel
theorem dX5_wordAt_23 : decode cX5_wordAt 23 = .ok (.iload_n 0, 1) := by decide +kernel
theorem dX5_wordAt_24 : decode cX5_wordAt 24 = .ok (.iconst 1, 1) := by decide +kernel
theorem dX5_wordAt_25 : decode cX5_wordAt 25 = .ok (.if_icmp .eq 7, 3) := by decide +kernel
theorem dX5_wordAt_28 : decode cX5_wordAt 28 = .ok (.iload_n 2, 1) := by decide +kernel
theorem dX5_wordAt_29 : decode cX5_wordAt 29 = .ok (.ifCond .ne 5, 3) := by decide +kernel
theorem dX5_wordAt_32 : decode cX5_wordAt 32 = .ok (.iload_n 3, 1) := by decide +kernel
theorem dX5_wordAt_33 : decode cX5_wordAt 33 = .ok (.ireturn, 1) := by decide +kernel
theorem dX5_wordAt_34 : decode cX5_wordAt 34 = .ok (.iload_n 3, 1) := by decide +kernel
theorem dX5_wordAt_35 : decode cX5_wordAt 35 = .ok (.iload_n 1, 1) := by decide +kernel
theorem dX5_wordAt_36 : decode cX5_wordAt 36 = .ok (.iload_n 2, 1) := by decide +kernel
theorem dX5_wordAt_37 : decode cX5_wordAt 37 = .ok (.iconst 1, 1) := by decide +kernel
theorem dX5_wordAt_38 : decode cX5_wordAt 38 = .ok (.isub, 1) := by decide +kernel
theorem dX5_wordAt_39 : decode cX5_wordAt 39 = .ok (.invokestatic 338, 3) := by decide +kernel
theorem dX5_wordAt_42 : decode cX5_wordAt 42 = .ok (.isub, 1) := by decide +kernel
theorem dX5_wordAt_43 : decode cX5_wordAt 43 = .ok (.ireturn, 1) := by decide +kernel
theorem dX5_stepFromLowest_0 : decode cX5_stepFromLowest 0 = .ok (.iconst 0, 1) := by decide +kernel
theorem dX5_stepFromLowest_1 : decode cX5_stepFromLowest 1 = .ok (.istore_n 2, 1) := by decide +kernel
theorem dX5_stepFromLowest_2 : decode cX5_stepFromLowest 2 = .ok (.iconst 0, 1) := by decide +kernel
theorem dX5_stepFromLowest_3 : decode cX5_stepFromLowest 3 = .ok (.istore_n 3, 1) := by decide +kernel
theorem dX5_stepFromLowest_4 : decode cX5_stepFromLowest 4 = .ok (.iload_n 3, 1) := by decide +kernel
theorem dX5_stepFromLowest_5 : decode cX5_stepFromLowest 5 = .ok (.bipush 18, 2) := by decide +kernel
theorem dX5_stepFromLowest_7 : decode cX5_stepFromLowest 7 = .ok (.if_icmp .ge 27, 3) := by decide +kernel
theorem dX5_stepFromLowest_10 : decode cX5_stepFromLowest 10 = .ok (.iload_n 0, 1) := by decide +kernel
theorem dX5_stepFromLowest_11 : decode cX5_stepFromLowest 11 = .ok (.iload_n 3, 1) := by decide +kernel
theorem dX5_stepFromLowest_12 : decode cX5_stepFromLowest 12 = .ok (.invokestatic 318, 3) := by decide +kernel
theorem dX5_stepFromLowest_15 : decode cX5_stepFromLowest 15 = .ok (.ifCond .eq 13, 3) := by decide +kernel
theorem dX5_stepFromLowest_18 : decode cX5_stepFromLowest 18 = .ok (.iload_n 2, 1) := by decide +kernel
theorem dX5_stepFromLowest_19 : decode cX5_stepFromLowest 19 = .ok (.iload_n 1, 1) := by decide +kernel
theorem dX5_stepFromLowest_20 : decode cX5_stepFromLowest 20 = .ok (.if_icmp .ne 5, 3) := by decide +kernel
theorem dX5_stepFromLowest_23 : decode cX5_stepFromLowest 23 = .ok (.iload_n 3, 1) := by decide +kernel
theorem dX5_stepFromLowest_24 : decode cX5_stepFromLowest 24 = .ok (.ireturn, 1) := by decide +kernel
theorem dX5_stepFromLowest_25 : decode cX5_stepFromLowest 25 = .ok (.iinc 2 1, 3) := by decide +kernel
theorem dX5_stepFromLowest_28 : decode cX5_stepFromLowest 28 = .ok (.iinc 3 1, 3) := by decide +kernel
theorem dX5_stepFromLowest_31 : decode cX5_stepFromLowest 31 = .ok (.goto (-27), 3) := by decide +kernel
theorem dX5_stepFromLowest_34 : decode cX5_stepFromLowest 34 = .ok (.iconst (-1), 1) := by decide +kernel
theorem dX5_stepFromLowest_35 : decode cX5_stepFromLowest 35 = .ok (.ireturn, 1) := by decide +kernel
theorem dX5_carryStalls_0 : decode cX5_carryStalls 0 = .ok (.aload_n 0, 1) := by decide +kernel
theorem dX5_carryStalls_1 : decode cX5_carryStalls 1 = .ok (.getfield 44, 3) := by decide +kernel
theorem dX5_carryStalls_4 : decode cX5_carryStalls 4 = .ok (.aload_n 0, 1) := by decide +kernel
theorem dX5_carryStalls_5 : decode cX5_carryStalls 5 = .ok (.getfield 10, 3) := by decide +kernel
theorem dX5_carryStalls_8 : decode cX5_carryStalls 8 = .ok (.iload_n 1, 1) := by decide +kernel
theorem dX5_carryStalls_9 : decode cX5_carryStalls 9 = .ok (.invokevirtual 65, 3) := by decide +kernel
theorem dX5_carryStalls_12 : decode cX5_carryStalls 12 = .ok (.invokestatic 89, 3) := by decide +kernel
theorem dX5_carryStalls_15 : decode cX5_carryStalls 15 = .ok (.aload_n 0, 1) := by decide +kernel
theorem dX5_carryStalls_16 : decode cX5_carryStalls 16 = .ok (.getfield 10, 3) := by decide +kernel
theorem dX5_carryStalls_19 : decode cX5_carryStalls 19 = .ok (.iload_n 2, 1) := by decide +kernel
theorem dX5_carryStalls_20 : decode cX5_carryStalls 20 = .ok (.invokevirtual 65, 3) := by decide +kernel
theorem dX5_carryStalls_23 : decode cX5_carryStalls 23 = .ok (.invokestatic 89, 3) := by decide +kernel
theorem dX5_carryStalls_26 : decode cX5_carryStalls 26 = .ok (.invokevirtual 341, 3) := by decide +kernel
theorem dX5_carryStalls_29 : decode cX5_carryStalls 29 = .ok (.ireturn, 1) := by decide +kernel
theorem dX5_lengthOfCode_0 : decode cX5_lengthOfCode 0 = .ok (.iconst 0, 1) := by decide +kernel
theorem dX5_lengthOfCode_1 : decode cX5_lengthOfCode 1 = .ok (.istore_n 1, 1) := by decide +kernel
theorem dX5_lengthOfCode_2 : decode cX5_lengthOfCode 2 = .ok (.iconst 0, 1) := by decide +kernel
theorem dX5_lengthOfCode_3 : decode cX5_lengthOfCode 3 = .ok (.istore_n 2, 1) := by decide +kernel
theorem dX5_lengthOfCode_4 : decode cX5_lengthOfCode 4 = .ok (.iload_n 2, 1) := by decide +kernel
theorem dX5_lengthOfCode_5 : decode cX5_lengthOfCode 5 = .ok (.bipush 18, 2) := by decide +kernel
theorem dX5_lengthOfCode_7 : decode cX5_lengthOfCode 7 = .ok (.if_icmp .ge 21, 3) := by decide +kernel
theorem dX5_lengthOfCode_10 : decode cX5_lengthOfCode 10 = .ok (.iload_n 0, 1) := by decide +kernel
theorem dX5_lengthOfCode_11 : decode cX5_lengthOfCode 11 = .ok (.iload_n 2, 1) := by decide +kernel
theorem dX5_lengthOfCode_12 : decode cX5_lengthOfCode 12 = .ok (.invokestatic 318, 3) := by decide +kernel
theorem dX5_lengthOfCode_15 : decode cX5_lengthOfCode 15 = .ok (.ifCond .eq 7, 3) := by decide +kernel
theorem dX5_lengthOfCode_18 : decode cX5_lengthOfCode 18 = .ok (.iload_n 2, 1) := by decide +kernel
theorem dX5_lengthOfCode_19 : decode cX5_lengthOfCode 19 = .ok (.iconst 1, 1) := by decide +kernel
theorem dX5_lengthOfCode_20 : decode cX5_lengthOfCode 20 = .ok (.iadd, 1) := by decide +kernel
theorem dX5_lengthOfCode_21 : decode cX5_lengthOfCode 21 = .ok (.istore_n 1, 1) := by decide +kernel
theorem dX5_lengthOfCode_22 : decode cX5_lengthOfCode 22 = .ok (.iinc 2 1, 3) := by decide +kernel
theorem dX5_lengthOfCode_25 : decode cX5_lengthOfCode 25 = .ok (.goto (-21), 3) := by decide +kernel
theorem dX5_lengthOfCode_28 : decode cX5_lengthOfCode 28 = .ok (.iload_n 1, 1) := by decide +kernel
theorem dX5_lengthOfCode_29 : decode cX5_lengthOfCode 29 = .ok (.iconst 1, 1) := by decide +kernel
theorem dX5_lengthOfCode_30 : decode cX5_lengthOfCode 30 = .ok (.iadd, 1) := by decide +kernel
theorem dX5_lengthOfCode_31 : decode cX5_lengthOfCode 31 = .ok (.ireturn, 1) := by decide +kernel
theorem dX5_digitOf_0 : decode cX5_digitOf 0 = .ok (.lload_n 0, 1) := by decide +kernel
theorem dX5_digitOf_1 : decode cX5_digitOf 1 = .ok (.iload_n 2, 1) := by decide +kernel
theorem dX5_digitOf_2 : decode cX5_digitOf 2 = .ok (.lushr, 1) := by decide +kernel
theorem dX5_digitOf_3 : decode cX5_digitOf 3 = .ok (.lconst 1, 1) := by decide +kernel
theorem dX5_digitOf_4 : decode cX5_digitOf 4 = .ok (.land, 1) := by decide +kernel
theorem dX5_digitOf_5 : decode cX5_digitOf 5 = .ok (.l2i, 1) := by decide +kernel
theorem dX5_digitOf_6 : decode cX5_digitOf 6 = .ok (.ireturn, 1) := by decide +kernel
theorem dX5_scanText_0 : decode cX5_scanText 0 = .ok (.aload_n 0, 1) := by decide +kernel
theorem dX5_scanText_1 : decode cX5_scanText 1 = .ok (.getfield 30, 3) := by decide +kernel
theorem dX5_scanText_4 : decode cX5_scanText 4 = .ok (.invokevirtual 344, 3) := by decide +kernel
theorem dX5_scanText_7 : decode cX5_scanText 7 = .ok (.iconst 0, 1) := by decide +kernel
theorem dX5_scanText_8 : decode cX5_scanText 8 = .ok (.istore_n 1, 1) := by decide +kernel
theorem dX5_scanText_9 : decode cX5_scanText 9 = .ok (.iload_n 1, 1) := by decide +kernel
theorem dX5_scanText_10 : decode cX5_scanText 10 = .ok (.aload_n 0, 1) := by decide +kernel
theorem dX5_scanText_11 : decode cX5_scanText 11 = .ok (.getfield 146, 3) := by decide +kernel
theorem dX5_scanText_14 : decode cX5_scanText 14 = .ok (.if_icmp .ge 36, 3) := by decide +kernel
theorem dX5_scanText_17 : decode cX5_scanText 17 = .ok (.iload_n 1, 1) := by decide +kernel
theorem dX5_scanText_18 : decode cX5_scanText 18 = .ok (.aload_n 0, 1) := by decide +kernel
theorem dX5_scanText_19 : decode cX5_scanText 19 = .ok (.getfield 23, 3) := by decide +kernel
theorem dX5_scanText_22 : decode cX5_scanText 22 = .ok (.arraylength, 1) := by decide +kernel
theorem dX5_scanText_23 : decode cX5_scanText 23 = .ok (.if_icmp .ge 27, 3) := by decide +kernel
theorem dX5_scanText_26 : decode cX5_scanText 26 = .ok (.aload_n 0, 1) := by decide +kernel
theorem dX5_scanText_27 : decode cX5_scanText 27 = .ok (.getfield 30, 3) := by decide +kernel
theorem dX5_scanText_30 : decode cX5_scanText 30 = .ok (.aload_n 0, 1) := by decide +kernel
theorem dX5_scanText_31 : decode cX5_scanText 31 = .ok (.getfield 23, 3) := by decide +kernel
theorem dX5_scanText_34 : decode cX5_scanText 34 = .ok (.iload_n 1, 1) := by decide +kernel
theorem dX5_scanText_35 : decode cX5_scanText 35 = .ok (.caload, 1) := by decide +kernel
theorem dX5_scanText_36 : decode cX5_scanText 36 = .ok (.invokevirtual 347, 3) := by decide +kernel
theorem dX5_scanText_39 : decode cX5_scanText 39 = .ok (.ifCond .ne 5, 3) := by decide +kernel
theorem dX5_scanText_42 : decode cX5_scanText 42 = .ok (.iload_n 1, 1) := by decide +kernel
theorem dX5_scanText_43 : decode cX5_scanText 43 = .ok (.ireturn, 1) := by decide +kernel
theorem dX5_scanText_44 : decode cX5_scanText 44 = .ok (.iinc 1 1, 3) := by decide +kernel
theorem dX5_scanText_47 : decode cX5_scanText 47 = .ok (.goto (-38), 3) := by decide +kernel
theorem dX5_scanText_50 : decode cX5_scanText 50 = .ok (.aload_n 0, 1) := by decide +kernel
theorem dX5_scanText_51 : decode cX5_scanText 51 = .ok (.getfield 146, 3) := by decide +kernel
theorem dX5_scanText_54 : decode cX5_scanText 54 = .ok (.ireturn, 1) := by decide +kernel
theorem dX5_doParts_0 : decode cX5_doParts 0 = .ok (.aload_n 0, 1) := by decide +kernel
theorem dX5_doParts_1 : decode cX5_doParts 1 = .ok (.getfield 10, 3) := by decide +kernel
theorem dX5_doParts_4 : decode cX5_doParts 4 = .ok (.iconst (-1), 1) := by decide +kernel
theorem dX5_doParts_5 : decode cX5_doParts 5 = .ok (.putfield 164, 3) := by decide +kernel
theorem dX5_doParts_8 : decode cX5_doParts 8 = .ok (.aload_n 0, 1) := by decide +kernel
theorem dX5_doParts_9 : decode cX5_doParts 9 = .ok (.getfield 10, 3) := by decide +kernel
theorem dX5_doParts_12 : decode cX5_doParts 12 = .ok (.iconst 0, 1) := by decide +kernel
theorem dX5_doParts_13 : decode cX5_doParts 13 = .ok (.putfield 170, 3) := by decide +kernel
theorem dX5_doParts_16 : decode cX5_doParts 16 = .ok (.iconst 0, 1) := by decide +kernel
theorem dX5_doParts_17 : decode cX5_doParts 17 = .ok (.istore_n 1, 1) := by decide +kernel
theorem dX5_doParts_18 : decode cX5_doParts 18 = .ok (.aload_n 0, 1) := by decide +kernel
theorem dX5_doParts_19 : decode cX5_doParts 19 = .ok (.getfield 30, 3) := by decide +kernel
theorem dX5_doParts_22 : decode cX5_doParts 22 = .ok (.invokevirtual 344, 3) := by decide +kernel
theorem dX5_doParts_25 : decode cX5_doParts 25 = .ok (.iconst 0, 1) := by decide +kernel
theorem dX5_doParts_26 : decode cX5_doParts 26 = .ok (.istore_n 2, 1) := by decide +kernel
theorem dX5_doParts_27 : decode cX5_doParts 27 = .ok (.iload_n 2, 1) := by decide +kernel
theorem dX5_doParts_28 : decode cX5_doParts 28 = .ok (.aload_n 0, 1) := by decide +kernel
theorem dX5_doParts_29 : decode cX5_doParts 29 = .ok (.getfield 146, 3) := by decide +kernel
theorem dX5_doParts_32 : decode cX5_doParts 32 = .ok (.if_icmp .gt 95, 3) := by decide +kernel
theorem dX5_doParts_35 : decode cX5_doParts 35 = .ok (.iload_n 2, 1) := by decide +kernel
theorem dX5_doParts_36 : decode cX5_doParts 36 = .ok (.aload_n 0, 1) := by decide +kernel
theorem dX5_doParts_37 : decode cX5_doParts 37 = .ok (.getfield 23, 3) := by decide +kernel
theorem dX5_doParts_40 : decode cX5_doParts 40 = .ok (.arraylength, 1) := by decide +kernel
theorem dX5_doParts_41 : decode cX5_doParts 41 = .ok (.if_icmp .gt 86, 3) := by decide +kernel
theorem dX5_doParts_44 : decode cX5_doParts 44 = .ok (.iload_n 2, 1) := by decide +kernel
theorem dX5_doParts_45 : decode cX5_doParts 45 = .ok (.aload_n 0, 1) := by decide +kernel
theorem dX5_doParts_46 : decode cX5_doParts 46 = .ok (.getfield 146, 3) := by decide +kernel
theorem dX5_doParts_49 : decode cX5_doParts 49 = .ok (.if_icmp .ge 21, 3) := by decide +kernel
theorem dX5_doParts_52 : decode cX5_doParts 52 = .ok (.iload_n 2, 1) := by decide +kernel
theorem dX5_doParts_53 : decode cX5_doParts 53 = .ok (.aload_n 0, 1) := by decide +kernel
theorem dX5_doParts_54 : decode cX5_doParts 54 = .ok (.getfield 23, 3) := by decide +kernel
theorem dX5_doParts_57 : decode cX5_doParts 57 = .ok (.arraylength, 1) := by decide +kernel
theorem dX5_doParts_58 : decode cX5_doParts 58 = .ok (.if_icmp .ge 12, 3) := by decide +kernel
theorem dX5_doParts_61 : decode cX5_doParts 61 = .ok (.aload_n 0, 1) := by decide +kernel
theorem dX5_doParts_62 : decode cX5_doParts 62 = .ok (.getfield 23, 3) := by decide +kernel
theorem dX5_doParts_65 : decode cX5_doParts 65 = .ok (.iload_n 2, 1) := by decide +kernel
theorem dX5_doParts_66 : decode cX5_doParts 66 = .ok (.caload, 1) := by decide +kernel
theorem dX5_doParts_67 : decode cX5_doParts 67 = .ok (.goto 5, 3) := by decide +kernel
theorem dX5_doParts_70 : decode cX5_doParts 70 = .ok (.bipush 59, 2) := by decide +kernel
theorem dX5_doParts_72 : decode cX5_doParts 72 = .ok (.istore_n 3, 1) := by decide +kernel
theorem dX5_doParts_73 : decode cX5_doParts 73 = .ok (.iload_n 3, 1) := by decide +kernel
theorem dX5_doParts_74 : decode cX5_doParts 74 = .ok (.bipush 59, 2) := by decide +kernel
theorem dX5_doParts_76 : decode cX5_doParts 76 = .ok (.if_icmp .ne 36, 3) := by decide +kernel
theorem dX5_doParts_79 : decode cX5_doParts 79 = .ok (.aload_n 0, 1) := by decide +kernel
theorem dX5_doParts_80 : decode cX5_doParts 80 = .ok (.invokevirtual 351, 3) := by decide +kernel
theorem dX5_doParts_83 : decode cX5_doParts 83 = .ok (.istore 4, 2) := by decide +kernel
theorem dX5_doParts_85 : decode cX5_doParts 85 = .ok (.iload 4, 2) := by decide +kernel
theorem dX5_doParts_87 : decode cX5_doParts 87 = .ok (.ifCond .eq 22, 3) := by decide +kernel
theorem dX5_doParts_90 : decode cX5_doParts 90 = .ok (.aload_n 0, 1) := by decide +kernel
theorem dX5_doParts_91 : decode cX5_doParts 91 = .ok (.getfield 10, 3) := by decide +kernel
theorem dX5_doParts_94 : decode cX5_doParts 94 = .ok (.iload_n 1, 1) := by decide +kernel
theorem dX5_doParts_95 : decode cX5_doParts 95 = .ok (.putfield 164, 3) := by decide +kernel
theorem dX5_doParts_98 : decode cX5_doParts 98 = .ok (.aload_n 0, 1) := by decide +kernel
theorem dX5_doParts_99 : decode cX5_doParts 99 = .ok (.getfield 10, 3) := by decide +kernel
theorem dX5_doParts_102 : decode cX5_doParts 102 = .ok (.iload 4, 2) := by decide +kernel
theorem dX5_doParts_104 : decode cX5_doParts 104 = .ok (.putfield 170, 3) := by decide +kernel
theorem dX5_doParts_107 : decode cX5_doParts 107 = .ok (.iload_n 1, 1) := by decide +kernel
theorem dX5_doParts_108 : decode cX5_doParts 108 = .ok (.ireturn, 1) := by decide +kernel
theorem dX5_doParts_109 : decode cX5_doParts 109 = .ok (.iinc 1 1, 3) := by decide +kernel
theorem dX5_doParts_112 : decode cX5_doParts 112 = .ok (.aload_n 0, 1) := by decide +kernel
theorem dX5_doParts_113 : decode cX5_doParts 113 = .ok (.getfield 30, 3) := by decide +kernel
theorem dX5_doParts_116 : decode cX5_doParts 116 = .ok (.iload_n 3, 1) := by decide +kernel
theorem dX5_doParts_117 : decode cX5_doParts 117 = .ok (.invokevirtual 347, 3) := by decide +kernel
theorem dX5_doParts_120 : decode cX5_doParts 120 = .ok (.pop, 1) := by decide +kernel
theorem dX5_doParts_121 : decode cX5_doParts 121 = .ok (.iinc 2 1, 3) := by decide +kernel
theorem dX5_doParts_124 : decode cX5_doParts 124 = .ok (.goto (-97), 3) := by decide +kernel
theorem dX5_doParts_127 : decode cX5_doParts 127 = .ok (.iload_n 1, 1) := by decide +kernel
theorem dX5_doParts_128 : decode cX5_doParts 128 = .ok (.ireturn, 1) := by decide +kernel
theorem dX5_doPart_0 : decode cX5_doPart 0 = .ok (.aload_n 0, 1) := by decide +kernel
theorem dX5_doPart_1 : decode cX5_doPart 1 = .ok (.getfield 10, 3) := by decide +kernel
theorem dX5_doPart_4 : decode cX5_doPart 4 = .ok (.aload_n 0, 1) := by decide +kernel
theorem dX5_doPart_5 : decode cX5_doPart 5 = .ok (.getfield 30, 3) := by decide +kernel
theorem dX5_doPart_8 : decode cX5_doPart 8 = .ok (.getfield 354, 3) := by decide +kernel
theorem dX5_doPart_11 : decode cX5_doPart 11 = .ok (.invokevirtual 65, 3) := by decide +kernel
theorem dX5_doPart_14 : decode cX5_doPart 14 = .ok (.istore_n 1, 1) := by decide +kernel
theorem dX5_doPart_15 : decode cX5_doPart 15 = .ok (.aload_n 0, 1) := by decide +kernel
theorem dX5_doPart_16 : decode cX5_doPart 16 = .ok (.getfield 30, 3) := by decide +kernel
theorem dX5_doPart_19 : decode cX5_doPart 19 = .ok (.getfield 357, 3) := by decide +kernel
theorem dX5_doPart_22 : decode cX5_doPart 22 = .ok (.lookupswitch 125 #[(43, 62), (45, 83), (61, 50), (94, 104), (115, 113)], 50) := by decide +kernel
theorem dX5_doPart_72 : decode cX5_doPart 72 = .ok (.aload_n 0, 1) := by decide +kernel
theorem dX5_doPart_73 : decode cX5_doPart 73 = .ok (.aload_n 0, 1) := by decide +kernel
theorem dX5_doPart_74 : decode cX5_doPart 74 = .ok (.getfield 30, 3) := by decide +kernel
theorem dX5_doPart_77 : decode cX5_doPart 77 = .ok (.getfield 361, 3) := by decide +kernel
theorem dX5_doPart_80 : decode cX5_doPart 80 = .ok (.invokevirtual 364, 3) := by decide +kernel
theorem dX5_doPart_83 : decode cX5_doPart 83 = .ok (.ireturn, 1) := by decide +kernel
theorem dX5_doPart_84 : decode cX5_doPart 84 = .ok (.aload_n 0, 1) := by decide +kernel
theorem dX5_doPart_85 : decode cX5_doPart 85 = .ok (.iload_n 1, 1) := by decide +kernel
theorem dX5_doPart_86 : decode cX5_doPart 86 = .ok (.aload_n 0, 1) := by decide +kernel
theorem dX5_doPart_87 : decode cX5_doPart 87 = .ok (.getfield 10, 3) := by decide +kernel
theorem dX5_doPart_90 : decode cX5_doPart 90 = .ok (.aload_n 0, 1) := by decide +kernel
theorem dX5_doPart_91 : decode cX5_doPart 91 = .ok (.getfield 30, 3) := by decide +kernel
theorem dX5_doPart_94 : decode cX5_doPart 94 = .ok (.getfield 361, 3) := by decide +kernel
theorem dX5_doPart_97 : decode cX5_doPart 97 = .ok (.invokevirtual 65, 3) := by decide +kernel
theorem dX5_doPart_100 : decode cX5_doPart 100 = .ok (.iadd, 1) := by decide +kernel
theorem dX5_doPart_101 : decode cX5_doPart 101 = .ok (.invokevirtual 364, 3) := by decide +kernel
theorem dX5_doPart_104 : decode cX5_doPart 104 = .ok (.ireturn, 1) := by decide +kernel
theorem dX5_doPart_105 : decode cX5_doPart 105 = .ok (.aload_n 0, 1) := by decide +kernel
theorem dX5_doPart_106 : decode cX5_doPart 106 = .ok (.iload_n 1, 1) := by decide +kernel
theorem dX5_doPart_107 : decode cX5_doPart 107 = .ok (.aload_n 0, 1) := by decide +kernel
theorem dX5_doPart_108 : decode cX5_doPart 108 = .ok (.getfield 10, 3) := by decide +kernel
theorem dX5_doPart_111 : decode cX5_doPart 111 = .ok (.aload_n 0, 1) := by decide +kernel
theorem dX5_doPart_112 : decode cX5_doPart 112 = .ok (.getfield 30, 3) := by decide +kernel
theorem dX5_doPart_115 : decode cX5_doPart 115 = .ok (.getfield 361, 3) := by decide +kernel
theorem dX5_doPart_118 : decode cX5_doPart 118 = .ok (.invokevirtual 65, 3) := by decide +kernel
theorem dX5_doPart_121 : decode cX5_doPart 121 = .ok (.isub, 1) := by decide +kernel
theorem dX5_doPart_122 : decode cX5_doPart 122 = .ok (.invokevirtual 364, 3) := by decide +kernel
theorem dX5_doPart_125 : decode cX5_doPart 125 = .ok (.ireturn, 1) := by decide +kernel
theorem dX5_doPart_126 : decode cX5_doPart 126 = .ok (.aload_n 0, 1) := by decide +kernel
theorem dX5_doPart_127 : decode cX5_doPart 127 = .ok (.iload_n 1, 1) := by decide +kernel
theorem dX5_doPart_128 : decode cX5_doPart 128 = .ok (.invokestatic 89, 3) := by decide +kernel
theorem dX5_doPart_131 : decode cX5_doPart 131 = .ok (.invokevirtual 367, 3) := by decide +kernel
theorem dX5_doPart_134 : decode cX5_doPart 134 = .ok (.ireturn, 1) := by decide +kernel
theorem dX5_doPart_135 : decode cX5_doPart 135 = .ok (.aload_n 0, 1) := by decide +kernel
theorem dX5_doPart_136 : decode cX5_doPart 136 = .ok (.aload_n 0, 1) := by decide +kernel
theorem dX5_doPart_137 : decode cX5_doPart 137 = .ok (.getfield 30, 3) := by decide +kernel
theorem dX5_doPart_140 : decode cX5_doPart 140 = .ok (.getfield 361, 3) := by decide +kernel
theorem dX5_doPart_143 : decode cX5_doPart 143 = .ok (.invokevirtual 370, 3) := by decide +kernel
theorem dX5_doPart_146 : decode cX5_doPart 146 = .ok (.ireturn, 1) := by decide +kernel
theorem dX5_doPart_147 : decode cX5_doPart 147 = .ok (.aload_n 0, 1) := by decide +kernel
theorem dX5_doPart_148 : decode cX5_doPart 148 = .ok (.aload_n 0, 1) := by decide +kernel
theorem dX5_doPart_149 : decode cX5_doPart 149 = .ok (.getfield 30, 3) := by decide +kernel
theorem dX5_doPart_152 : decode cX5_doPart 152 = .ok (.getfield 361, 3) := by decide +kernel
theorem dX5_doPart_155 : decode cX5_doPart 155 = .ok (.invokevirtual 373, 3) := by decide +kernel
theorem dX5_doPart_158 : decode cX5_doPart 158 = .ok (.ireturn, 1) := by decide +kernel
theorem dX5_giveIfFits_0 : decode cX5_giveIfFits 0 = .ok (.iload_n 1, 1) := by decide +kernel
theorem dX5_giveIfFits_1 : decode cX5_giveIfFits 1 = .ok (.sipush 6764, 3) := by decide +kernel
theorem dX5_giveIfFits_4 : decode cX5_giveIfFits 4 = .ok (.if_icmp .le 5, 3) := by decide +kernel
theorem dX5_giveIfFits_7 : decode cX5_giveIfFits 7 = .ok (.iconst 1, 1) := by decide +kernel
theorem dX5_giveIfFits_8 : decode cX5_giveIfFits 8 = .ok (.ireturn, 1) := by decide +kernel
theorem dX5_giveIfFits_9 : decode cX5_giveIfFits 9 = .ok (.iload_n 1, 1) := by decide +kernel
theorem dX5_giveIfFits_10 : decode cX5_giveIfFits 10 = .ok (.ifCond .ge 5, 3) := by decide +kernel
theorem dX5_giveIfFits_13 : decode cX5_giveIfFits 13 = .ok (.iconst 2, 1) := by decide +kernel
theorem dX5_giveIfFits_14 : decode cX5_giveIfFits 14 = .ok (.ireturn, 1) := by decide +kernel
theorem dX5_giveIfFits_15 : decode cX5_giveIfFits 15 = .ok (.aload_n 0, 1) := by decide +kernel
theorem dX5_giveIfFits_16 : decode cX5_giveIfFits 16 = .ok (.getfield 10, 3) := by decide +kernel
theorem dX5_giveIfFits_19 : decode cX5_giveIfFits 19 = .ok (.aload_n 0, 1) := by decide +kernel
theorem dX5_giveIfFits_20 : decode cX5_giveIfFits 20 = .ok (.getfield 30, 3) := by decide +kernel
theorem dX5_giveIfFits_23 : decode cX5_giveIfFits 23 = .ok (.getfield 354, 3) := by decide +kernel
theorem dX5_giveIfFits_26 : decode cX5_giveIfFits 26 = .ok (.iload_n 1, 1) := by decide +kernel
theorem dX5_giveIfFits_27 : decode cX5_giveIfFits 27 = .ok (.invokevirtual 72, 3) := by decide +kernel
theorem dX5_giveIfFits_30 : decode cX5_giveIfFits 30 = .ok (.iconst 0, 1) := by decide +kernel
theorem dX5_giveIfFits_31 : decode cX5_giveIfFits 31 = .ok (.ireturn, 1) := by decide +kernel
theorem dX5_doRaise_0 : decode cX5_doRaise 0 = .ok (.iload_n 1, 1) := by decide +kernel
theorem dX5_doRaise_1 : decode cX5_doRaise 1 = .ok (.invokestatic 92, 3) := by decide +kernel
theorem dX5_doRaise_4 : decode cX5_doRaise 4 = .ok (.ifCond .ne 5, 3) := by decide +kernel
theorem dX5_doRaise_7 : decode cX5_doRaise 7 = .ok (.iconst 1, 1) := by decide +kernel
theorem dX5_doRaise_8 : decode cX5_doRaise 8 = .ok (.ireturn, 1) := by decide +kernel
theorem dX5_doRaise_9 : decode cX5_doRaise 9 = .ok (.aload_n 0, 1) := by decide +kernel
theorem dX5_doRaise_10 : decode cX5_doRaise 10 = .ok (.getfield 10, 3) := by decide +kernel
theorem dX5_doRaise_13 : decode cX5_doRaise 13 = .ok (.aload_n 0, 1) := by decide +kernel
theorem dX5_doRaise_14 : decode cX5_doRaise 14 = .ok (.getfield 30, 3) := by decide +kernel
theorem dX5_doRaise_17 : decode cX5_doRaise 17 = .ok (.getfield 354, 3) := by decide +kernel
theorem dX5_doRaise_20 : decode cX5_doRaise 20 = .ok (.iload_n 1, 1) := by decide +kernel
theorem dX5_doRaise_21 : decode cX5_doRaise 21 = .ok (.invokestatic 98, 3) := by decide +kernel
theorem dX5_doRaise_24 : decode cX5_doRaise 24 = .ok (.invokevirtual 72, 3) := by decide +kernel
theorem dX5_doRaise_27 : decode cX5_doRaise 27 = .ok (.iconst 0, 1) := by decide +kernel
theorem dX5_doRaise_28 : decode cX5_doRaise 28 = .ok (.ireturn, 1) := by decide +kernel
theorem dX5_doSend_0 : decode cX5_doSend 0 = .ok (.aload_n 0, 1) := by decide +kernel
theorem dX5_doSend_1 : decode cX5_doSend 1 = .ok (.getfield 10, 3) := by decide +kernel
theorem dX5_doSend_4 : decode cX5_doSend 4 = .ok (.iload_n 1, 1) := by decide +kernel
theorem dX5_doSend_5 : decode cX5_doSend 5 = .ok (.invokevirtual 111, 3) := by decide +kernel
theorem dX5_doSend_8 : decode cX5_doSend 8 = .ok (.ifCond .ne 5, 3) := by decide +kernel
theorem dX5_doSend_11 : decode cX5_doSend 11 = .ok (.iconst 3, 1) := by decide +kernel
theorem dX5_doSend_12 : decode cX5_doSend 12 = .ok (.ireturn, 1) := by decide +kernel
theorem dX5_doSend_13 : decode cX5_doSend 13 = .ok (.aload_n 0, 1) := by decide +kernel
theorem dX5_doSend_14 : decode cX5_doSend 14 = .ok (.getfield 10, 3) := by decide +kernel
theorem dX5_doSend_17 : decode cX5_doSend 17 = .ok (.iload_n 1, 1) := by decide +kernel
theorem dX5_doSend_18 : decode cX5_doSend 18 = .ok (.invokevirtual 116, 3) := by decide +kernel
theorem dX5_doSend_21 : decode cX5_doSend 21 = .ok (.iconst 0, 1) := by decide +kernel
theorem dX5_doSend_22 : decode cX5_doSend 22 = .ok (.ireturn, 1) := by decide +kernel
theorem dX5_doTurn_0 : decode cX5_doTurn 0 = .ok (.iload_n 1, 1) := by decide +kernel
theorem dX5_doTurn_1 : decode cX5_doTurn 1 = .ok (.aload_n 0, 1) := by decide +kernel
theorem dX5_doTurn_2 : decode cX5_doTurn 2 = .ok (.getfield 10, 3) := by decide +kernel
theorem dX5_doTurn_5 : decode cX5_doTurn 5 = .ok (.getfield 119, 3) := by decide +kernel
theorem dX5_doTurn_8 : decode cX5_doTurn 8 = .ok (.if_icmp .lt 5, 3) := by decide +kernel
theorem dX5_doTurn_11 : decode cX5_doTurn 11 = .ok (.iconst 4, 1) := by decide +kernel
theorem dX5_doTurn_12 : decode cX5_doTurn 12 = .ok (.ireturn, 1) := by decide +kernel
theorem dX5_doTurn_13 : decode cX5_doTurn 13 = .ok (.aload_n 0, 1) := by decide +kernel
theorem dX5_doTurn_14 : decode cX5_doTurn 14 = .ok (.getfield 10, 3) := by decide +kernel
theorem dX5_doTurn_17 : decode cX5_doTurn 17 = .ok (.iload_n 1, 1) := by decide +kernel
theorem dX5_doTurn_18 : decode cX5_doTurn 18 = .ok (.invokevirtual 126, 3) := by decide +kernel
theorem dX5_doTurn_21 : decode cX5_doTurn 21 = .ok (.iconst 0, 1) := by decide +kernel
theorem dX5_doTurn_22 : decode cX5_doTurn 22 = .ok (.ireturn, 1) := by decide +kernel
theorem dJ6_bitCount_0f7a4_0 : decode cJ6_bitCount_0f7a4 0 = .ok (.iload_n 0, 1) := by decide +kernel
theorem dJ6_bitCount_0f7a4_1 : decode cJ6_bitCount_0f7a4 1 = .ok (.iload_n 0, 1) := by decide +kernel
theorem dJ6_bitCount_0f7a4_2 : decode cJ6_bitCount_0f7a4 2 = .ok (.iconst 1, 1) := by decide +kernel
theorem dJ6_bitCount_0f7a4_3 : decode cJ6_bitCount_0f7a4 3 = .ok (.iushr, 1) := by decide +kernel
theorem dJ6_bitCount_0f7a4_4 : decode cJ6_bitCount_0f7a4 4 = .ok (.ldc_w 265, 3) := by decide +kernel
theorem dJ6_bitCount_0f7a4_7 : decode cJ6_bitCount_0f7a4 7 = .ok (.iand, 1) := by decide +kernel
theorem dJ6_bitCount_0f7a4_8 : decode cJ6_bitCount_0f7a4 8 = .ok (.isub, 1) := by decide +kernel
theorem dJ6_bitCount_0f7a4_9 : decode cJ6_bitCount_0f7a4 9 = .ok (.istore_n 0, 1) := by decide +kernel
theorem dJ6_bitCount_0f7a4_10 : decode cJ6_bitCount_0f7a4 10 = .ok (.iload_n 0, 1) := by decide +kernel
theorem dJ6_bitCount_0f7a4_11 : decode cJ6_bitCount_0f7a4 11 = .ok (.ldc_w 266, 3) := by decide +kernel
theorem dJ6_bitCount_0f7a4_14 : decode cJ6_bitCount_0f7a4 14 = .ok (.iand, 1) := by decide +kernel
theorem dJ6_bitCount_0f7a4_15 : decode cJ6_bitCount_0f7a4 15 = .ok (.iload_n 0, 1) := by decide +kernel
theorem dJ6_bitCount_0f7a4_16 : decode cJ6_bitCount_0f7a4 16 = .ok (.iconst 2, 1) := by decide +kernel
theorem dJ6_bitCount_0f7a4_17 : decode cJ6_bitCount_0f7a4 17 = .ok (.iushr, 1) := by decide +kernel
theorem dJ6_bitCount_0f7a4_18 : decode cJ6_bitCount_0f7a4 18 = .ok (.ldc_w 266, 3) := by decide +kernel
theorem dJ6_bitCount_0f7a4_21 : decode cJ6_bitCount_0f7a4 21 = .ok (.iand, 1) := by decide +kernel
theorem dJ6_bitCount_0f7a4_22 : decode cJ6_bitCount_0f7a4 22 = .ok (.iadd, 1) := by decide +kernel
theorem dJ6_bitCount_0f7a4_23 : decode cJ6_bitCount_0f7a4 23 = .ok (.istore_n 0, 1) := by decide +kernel
theorem dJ6_bitCount_0f7a4_24 : decode cJ6_bitCount_0f7a4 24 = .ok (.iload_n 0, 1) := by decide +kernel
theorem dJ6_bitCount_0f7a4_25 : decode cJ6_bitCount_0f7a4 25 = .ok (.iload_n 0, 1) := by decide +kernel
theorem dJ6_bitCount_0f7a4_26 : decode cJ6_bitCount_0f7a4 26 = .ok (.iconst 4, 1) := by decide +kernel
theorem dJ6_bitCount_0f7a4_27 : decode cJ6_bitCount_0f7a4 27 = .ok (.iushr, 1) := by decide +kernel
theorem dJ6_bitCount_0f7a4_28 : decode cJ6_bitCount_0f7a4 28 = .ok (.iadd, 1) := by decide +kernel
theorem dJ6_bitCount_0f7a4_29 : decode cJ6_bitCount_0f7a4 29 = .ok (.ldc_w 267, 3) := by decide +kernel
theorem dJ6_bitCount_0f7a4_32 : decode cJ6_bitCount_0f7a4 32 = .ok (.iand, 1) := by decide +kernel
theorem dJ6_bitCount_0f7a4_33 : decode cJ6_bitCount_0f7a4 33 = .ok (.istore_n 0, 1) := by decide +kernel
theorem dJ6_bitCount_0f7a4_34 : decode cJ6_bitCount_0f7a4 34 = .ok (.iload_n 0, 1) := by decide +kernel
theorem dJ6_bitCount_0f7a4_35 : decode cJ6_bitCount_0f7a4 35 = .ok (.iload_n 0, 1) := by decide +kernel
theorem dJ6_bitCount_0f7a4_36 : decode cJ6_bitCount_0f7a4 36 = .ok (.bipush 8, 2) := by decide +kernel
theorem dJ6_bitCount_0f7a4_38 : decode cJ6_bitCount_0f7a4 38 = .ok (.iushr, 1) := by decide +kernel
theorem dJ6_bitCount_0f7a4_39 : decode cJ6_bitCount_0f7a4 39 = .ok (.iadd, 1) := by decide +kernel
theorem dJ6_bitCount_0f7a4_40 : decode cJ6_bitCount_0f7a4 40 = .ok (.istore_n 0, 1) := by decide +kernel
theorem dJ6_bitCount_0f7a4_41 : decode cJ6_bitCount_0f7a4 41 = .ok (.iload_n 0, 1) := by decide +kernel
theorem dJ6_bitCount_0f7a4_42 : decode cJ6_bitCount_0f7a4 42 = .ok (.iload_n 0, 1) := by decide +kernel
theorem dJ6_bitCount_0f7a4_43 : decode cJ6_bitCount_0f7a4 43 = .ok (.bipush 16, 2) := by decide +kernel
theorem dJ6_bitCount_0f7a4_45 : decode cJ6_bitCount_0f7a4 45 = .ok (.iushr, 1) := by decide +kernel
theorem dJ6_bitCount_0f7a4_46 : decode cJ6_bitCount_0f7a4 46 = .ok (.iadd, 1) := by decide +kernel
theorem dJ6_bitCount_0f7a4_47 : decode cJ6_bitCount_0f7a4 47 = .ok (.istore_n 0, 1) := by decide +kernel
theorem dJ6_bitCount_0f7a4_48 : decode cJ6_bitCount_0f7a4 48 = .ok (.iload_n 0, 1) := by decide +kernel
theorem dJ6_bitCount_0f7a4_49 : decode cJ6_bitCount_0f7a4 49 = .ok (.bipush 63, 2) := by decide +kernel
theorem dJ6_bitCount_0f7a4_51 : decode cJ6_bitCount_0f7a4 51 = .ok (.iand, 1) := by decide +kernel
theorem dJ6_bitCount_0f7a4_52 : decode cJ6_bitCount_0f7a4 52 = .ok (.ireturn, 1) := by decide +kernel
