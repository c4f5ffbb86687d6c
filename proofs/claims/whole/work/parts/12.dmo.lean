theorem dX6_init_0 : decode cX6_init 0 = .ok (.aload_n 0, 1) := by decide +kernel
theorem dX6_init_1 : decode cX6_init 1 = .ok (.invokespecial 1, 3) := by decide +kernel
theorem dX6_init_4 : decode cX6_init 4 = .ok (.aload_n 0, 1) := by decide +kernel
theorem dX6_init_5 : decode cX6_init 5 = .ok (.sipush 518, 3) := by decide +kernel
theorem dX6_init_8 : decode cX6_init 8 = .ok (.newarray .int, 2) := by decide +kernel
theorem dX6_init_10 : decode cX6_init 10 = .ok (.putfield 7, 3) := by decide +kernel
theorem dX6_init_13 : decode cX6_init 13 = .ok (.aload_n 0, 1) := by decide +kernel
theorem dX6_init_14 : decode cX6_init 14 = .ok (.bipush 60, 2) := by decide +kernel
theorem dX6_init_16 : decode cX6_init 16 = .ok (.newarray .int, 2) := by decide +kernel
theorem dX6_init_18 : decode cX6_init 18 = .ok (.putfield 13, 3) := by decide +kernel
theorem dX6_init_21 : decode cX6_init 21 = .ok (.aload_n 0, 1) := by decide +kernel
theorem dX6_init_22 : decode cX6_init 22 = .ok (.bipush 24, 2) := by decide +kernel
theorem dX6_init_24 : decode cX6_init 24 = .ok (.newarray .int, 2) := by decide +kernel
theorem dX6_init_26 : decode cX6_init 26 = .ok (.putfield 16, 3) := by decide +kernel
theorem dX6_init_29 : decode cX6_init 29 = .ok (.aload_n 0, 1) := by decide +kernel
theorem dX6_init_30 : decode cX6_init 30 = .ok (.bipush 64, 2) := by decide +kernel
theorem dX6_init_32 : decode cX6_init 32 = .ok (.newarray .int, 2) := by decide +kernel
theorem dX6_init_34 : decode cX6_init 34 = .ok (.putfield 19, 3) := by decide +kernel
theorem dX6_init_37 : decode cX6_init 37 = .ok (.return_, 1) := by decide +kernel
theorem dX6_thrown_0 : decode cX6_thrown 0 = .ok (.aload_n 0, 1) := by decide +kernel
theorem dX6_thrown_1 : decode cX6_thrown 1 = .ok (.getfield 22, 3) := by decide +kernel
theorem dX6_thrown_4 : decode cX6_thrown 4 = .ok (.ireturn, 1) := by decide +kernel
theorem dX6_in_0 : decode cX6_in 0 = .ok (.iload_n 0, 1) := by decide +kernel
theorem dX6_in_1 : decode cX6_in 1 = .ok (.iload_n 1, 1) := by decide +kernel
theorem dX6_in_2 : decode cX6_in 2 = .ok (.if_icmp .lt 12, 3) := by decide +kernel
theorem dX6_in_5 : decode cX6_in 5 = .ok (.iload_n 0, 1) := by decide +kernel
theorem dX6_in_6 : decode cX6_in 6 = .ok (.iload_n 2, 1) := by decide +kernel
theorem dX6_in_7 : decode cX6_in 7 = .ok (.if_icmp .gt 7, 3) := by decide +kernel
theorem dX6_in_10 : decode cX6_in 10 = .ok (.iconst 1, 1) := by decide +kernel
theorem dX6_in_11 : decode cX6_in 11 = .ok (.goto 4, 3) := by decide +kernel
theorem dX6_in_14 : decode cX6_in 14 = .ok (.iconst 0, 1) := by decide +kernel
theorem dX6_in_15 : decode cX6_in 15 = .ok (.ireturn, 1) := by decide +kernel
theorem dX6_goes_0 : decode cX6_goes 0 = .ok (.aload_n 0, 1) := by decide +kernel
theorem dX6_goes_1 : decode cX6_goes 1 = .ok (.iload_n 1, 1) := by decide +kernel
theorem dX6_goes_2 : decode cX6_goes 2 = .ok (.ifCond .ne 7, 3) := by decide +kernel
theorem dX6_goes_5 : decode cX6_goes 5 = .ok (.iconst 1, 1) := by decide +kernel
theorem dX6_goes_6 : decode cX6_goes 6 = .ok (.goto 20, 3) := by decide +kernel
theorem dX6_goes_9 : decode cX6_goes 9 = .ok (.iload_n 2, 1) := by decide +kernel
theorem dX6_goes_10 : decode cX6_goes 10 = .ok (.ifCond .ne 7, 3) := by decide +kernel
theorem dX6_goes_13 : decode cX6_goes 13 = .ok (.iconst 2, 1) := by decide +kernel
theorem dX6_goes_14 : decode cX6_goes 14 = .ok (.goto 12, 3) := by decide +kernel
theorem dX6_goes_17 : decode cX6_goes 17 = .ok (.iload_n 3, 1) := by decide +kernel
theorem dX6_goes_18 : decode cX6_goes 18 = .ok (.ifCond .ne 7, 3) := by decide +kernel
theorem dX6_goes_21 : decode cX6_goes 21 = .ok (.iconst 3, 1) := by decide +kernel
theorem dX6_goes_22 : decode cX6_goes 22 = .ok (.goto 4, 3) := by decide +kernel
theorem dX6_goes_25 : decode cX6_goes 25 = .ok (.iconst 0, 1) := by decide +kernel
theorem dX6_goes_26 : decode cX6_goes 26 = .ok (.putfield 22, 3) := by decide +kernel
theorem dX6_goes_29 : decode cX6_goes 29 = .ok (.aload_n 0, 1) := by decide +kernel
theorem dX6_goes_30 : decode cX6_goes 30 = .ok (.getfield 22, 3) := by decide +kernel
theorem dX6_goes_33 : decode cX6_goes 33 = .ok (.ifCond .ne 7, 3) := by decide +kernel
theorem dX6_goes_36 : decode cX6_goes 36 = .ok (.iconst 1, 1) := by decide +kernel
theorem dX6_goes_37 : decode cX6_goes 37 = .ok (.goto 4, 3) := by decide +kernel
theorem dX6_goes_40 : decode cX6_goes 40 = .ok (.iconst 0, 1) := by decide +kernel
theorem dX6_goes_41 : decode cX6_goes 41 = .ok (.ireturn, 1) := by decide +kernel
theorem dX6_copies_0 : decode cX6_copies 0 = .ok (.iconst 0, 1) := by decide +kernel
theorem dX6_copies_1 : decode cX6_copies 1 = .ok (.istore_n 3, 1) := by decide +kernel
theorem dX6_copies_2 : decode cX6_copies 2 = .ok (.iload_n 3, 1) := by decide +kernel
theorem dX6_copies_3 : decode cX6_copies 3 = .ok (.bipush 74, 2) := by decide +kernel
theorem dX6_copies_5 : decode cX6_copies 5 = .ok (.if_icmp .ge 31, 3) := by decide +kernel
theorem dX6_copies_8 : decode cX6_copies 8 = .ok (.aload_n 0, 1) := by decide +kernel
theorem dX6_copies_9 : decode cX6_copies 9 = .ok (.getfield 7, 3) := by decide +kernel
theorem dX6_copies_12 : decode cX6_copies 12 = .ok (.bipush 74, 2) := by decide +kernel
theorem dX6_copies_14 : decode cX6_copies 14 = .ok (.iload_n 2, 1) := by decide +kernel
theorem dX6_copies_15 : decode cX6_copies 15 = .ok (.imul, 1) := by decide +kernel
theorem dX6_copies_16 : decode cX6_copies 16 = .ok (.iload_n 3, 1) := by decide +kernel
theorem dX6_copies_17 : decode cX6_copies 17 = .ok (.iadd, 1) := by decide +kernel
theorem dX6_copies_18 : decode cX6_copies 18 = .ok (.aload_n 0, 1) := by decide +kernel
theorem dX6_copies_19 : decode cX6_copies 19 = .ok (.getfield 7, 3) := by decide +kernel
theorem dX6_copies_22 : decode cX6_copies 22 = .ok (.bipush 74, 2) := by decide +kernel
theorem dX6_copies_24 : decode cX6_copies 24 = .ok (.iload_n 1, 1) := by decide +kernel
theorem dX6_copies_25 : decode cX6_copies 25 = .ok (.imul, 1) := by decide +kernel
theorem dX6_copies_26 : decode cX6_copies 26 = .ok (.iload_n 3, 1) := by decide +kernel
theorem dX6_copies_27 : decode cX6_copies 27 = .ok (.iadd, 1) := by decide +kernel
theorem dX6_copies_28 : decode cX6_copies 28 = .ok (.iaload, 1) := by decide +kernel
theorem dX6_copies_29 : decode cX6_copies 29 = .ok (.iastore, 1) := by decide +kernel
theorem dX6_copies_30 : decode cX6_copies 30 = .ok (.iinc 3 1, 3) := by decide +kernel
theorem dX6_copies_33 : decode cX6_copies 33 = .ok (.goto (-31), 3) := by decide +kernel
theorem dX6_copies_36 : decode cX6_copies 36 = .ok (.return_, 1) := by decide +kernel
theorem dX6_saves_0 : decode cX6_saves 0 = .ok (.aload_n 0, 1) := by decide +kernel
theorem dX6_saves_1 : decode cX6_saves 1 = .ok (.getfield 26, 3) := by decide +kernel
theorem dX6_saves_4 : decode cX6_saves 4 = .ok (.iconst 5, 1) := by decide +kernel
theorem dX6_saves_5 : decode cX6_saves 5 = .ok (.if_icmp .ne 34, 3) := by decide +kernel
theorem dX6_saves_8 : decode cX6_saves 8 = .ok (.iconst 1, 1) := by decide +kernel
theorem dX6_saves_9 : decode cX6_saves 9 = .ok (.istore_n 1, 1) := by decide +kernel
theorem dX6_saves_10 : decode cX6_saves 10 = .ok (.iload_n 1, 1) := by decide +kernel
theorem dX6_saves_11 : decode cX6_saves 11 = .ok (.iconst 5, 1) := by decide +kernel
theorem dX6_saves_12 : decode cX6_saves 12 = .ok (.if_icmp .ge 17, 3) := by decide +kernel
theorem dX6_saves_15 : decode cX6_saves 15 = .ok (.aload_n 0, 1) := by decide +kernel
theorem dX6_saves_16 : decode cX6_saves 16 = .ok (.iload_n 1, 1) := by decide +kernel
theorem dX6_saves_17 : decode cX6_saves 17 = .ok (.iconst 1, 1) := by decide +kernel
theorem dX6_saves_18 : decode cX6_saves 18 = .ok (.iadd, 1) := by decide +kernel
theorem dX6_saves_19 : decode cX6_saves 19 = .ok (.iload_n 1, 1) := by decide +kernel
theorem dX6_saves_20 : decode cX6_saves 20 = .ok (.invokevirtual 29, 3) := by decide +kernel
theorem dX6_saves_23 : decode cX6_saves 23 = .ok (.iinc 1 1, 3) := by decide +kernel
theorem dX6_saves_26 : decode cX6_saves 26 = .ok (.goto (-16), 3) := by decide +kernel
theorem dX6_saves_29 : decode cX6_saves 29 = .ok (.aload_n 0, 1) := by decide +kernel
theorem dX6_saves_30 : decode cX6_saves 30 = .ok (.dup, 1) := by decide +kernel
theorem dX6_saves_31 : decode cX6_saves 31 = .ok (.getfield 26, 3) := by decide +kernel
theorem dX6_saves_34 : decode cX6_saves 34 = .ok (.iconst 1, 1) := by decide +kernel
theorem dX6_saves_35 : decode cX6_saves 35 = .ok (.isub, 1) := by decide +kernel
theorem dX6_saves_36 : decode cX6_saves 36 = .ok (.putfield 26, 3) := by decide +kernel
theorem dX6_saves_39 : decode cX6_saves 39 = .ok (.aload_n 0, 1) := by decide +kernel
theorem dX6_saves_40 : decode cX6_saves 40 = .ok (.dup, 1) := by decide +kernel
theorem dX6_saves_41 : decode cX6_saves 41 = .ok (.getfield 26, 3) := by decide +kernel
theorem dX6_saves_44 : decode cX6_saves 44 = .ok (.iconst 1, 1) := by decide +kernel
theorem dX6_saves_45 : decode cX6_saves 45 = .ok (.iadd, 1) := by decide +kernel
theorem dX6_saves_46 : decode cX6_saves 46 = .ok (.putfield 26, 3) := by decide +kernel
theorem dX6_saves_49 : decode cX6_saves 49 = .ok (.aload_n 0, 1) := by decide +kernel
theorem dX6_saves_50 : decode cX6_saves 50 = .ok (.iconst 0, 1) := by decide +kernel
theorem dX6_saves_51 : decode cX6_saves 51 = .ok (.aload_n 0, 1) := by decide +kernel
theorem dX6_saves_52 : decode cX6_saves 52 = .ok (.getfield 26, 3) := by decide +kernel
theorem dX6_saves_55 : decode cX6_saves 55 = .ok (.invokevirtual 29, 3) := by decide +kernel
theorem dX6_saves_58 : decode cX6_saves 58 = .ok (.return_, 1) := by decide +kernel
theorem dX6_worth_0 : decode cX6_worth 0 = .ok (.iconst 1, 1) := by decide +kernel
theorem dX6_worth_1 : decode cX6_worth 1 = .ok (.istore_n 1, 1) := by decide +kernel
theorem dX6_worth_2 : decode cX6_worth 2 = .ok (.iconst 2, 1) := by decide +kernel
theorem dX6_worth_3 : decode cX6_worth 3 = .ok (.istore_n 2, 1) := by decide +kernel
theorem dX6_worth_4 : decode cX6_worth 4 = .ok (.iconst 0, 1) := by decide +kernel
theorem dX6_worth_5 : decode cX6_worth 5 = .ok (.istore_n 3, 1) := by decide +kernel
theorem dX6_worth_6 : decode cX6_worth 6 = .ok (.iload_n 3, 1) := by decide +kernel
theorem dX6_worth_7 : decode cX6_worth 7 = .ok (.iload_n 0, 1) := by decide +kernel
theorem dX6_worth_8 : decode cX6_worth 8 = .ok (.if_icmp .ge 19, 3) := by decide +kernel
theorem dX6_worth_11 : decode cX6_worth 11 = .ok (.iload_n 1, 1) := by decide +kernel
theorem dX6_worth_12 : decode cX6_worth 12 = .ok (.iload_n 2, 1) := by decide +kernel
theorem dX6_worth_13 : decode cX6_worth 13 = .ok (.iadd, 1) := by decide +kernel
theorem dX6_worth_14 : decode cX6_worth 14 = .ok (.istore 4, 2) := by decide +kernel
theorem dX6_worth_16 : decode cX6_worth 16 = .ok (.iload_n 2, 1) := by decide +kernel
theorem dX6_worth_17 : decode cX6_worth 17 = .ok (.istore_n 1, 1) := by decide +kernel
theorem dX6_worth_18 : decode cX6_worth 18 = .ok (.iload 4, 2) := by decide +kernel
theorem dX6_worth_20 : decode cX6_worth 20 = .ok (.istore_n 2, 1) := by decide +kernel
theorem dX6_worth_21 : decode cX6_worth 21 = .ok (.iinc 3 1, 3) := by decide +kernel
theorem dX6_worth_24 : decode cX6_worth 24 = .ok (.goto (-18), 3) := by decide +kernel
theorem dX6_worth_27 : decode cX6_worth 27 = .ok (.iload_n 1, 1) := by decide +kernel
theorem dX6_worth_28 : decode cX6_worth 28 = .ok (.ireturn, 1) := by decide +kernel
theorem dX6_worths_0 : decode cX6_worths 0 = .ok (.iconst 0, 1) := by decide +kernel
theorem dX6_worths_1 : decode cX6_worths 1 = .ok (.istore_n 1, 1) := by decide +kernel
theorem dX6_worths_2 : decode cX6_worths 2 = .ok (.iconst 0, 1) := by decide +kernel
theorem dX6_worths_3 : decode cX6_worths 3 = .ok (.istore_n 2, 1) := by decide +kernel
theorem dX6_worths_4 : decode cX6_worths 4 = .ok (.iload_n 2, 1) := by decide +kernel
theorem dX6_worths_5 : decode cX6_worths 5 = .ok (.bipush 22, 2) := by decide +kernel
theorem dX6_worths_7 : decode cX6_worths 7 = .ok (.if_icmp .ge 29, 3) := by decide +kernel
theorem dX6_worths_10 : decode cX6_worths 10 = .ok (.iload_n 1, 1) := by decide +kernel
theorem dX6_worths_11 : decode cX6_worths 11 = .ok (.iload_n 0, 1) := by decide +kernel
theorem dX6_worths_12 : decode cX6_worths 12 = .ok (.iload_n 2, 1) := by decide +kernel
theorem dX6_worths_13 : decode cX6_worths 13 = .ok (.ishr, 1) := by decide +kernel
theorem dX6_worths_14 : decode cX6_worths 14 = .ok (.iconst 1, 1) := by decide +kernel
theorem dX6_worths_15 : decode cX6_worths 15 = .ok (.iand, 1) := by decide +kernel
theorem dX6_worths_16 : decode cX6_worths 16 = .ok (.iconst 1, 1) := by decide +kernel
theorem dX6_worths_17 : decode cX6_worths 17 = .ok (.if_icmp .ne 10, 3) := by decide +kernel
theorem dX6_worths_20 : decode cX6_worths 20 = .ok (.iload_n 2, 1) := by decide +kernel
theorem dX6_worths_21 : decode cX6_worths 21 = .ok (.invokestatic 33, 3) := by decide +kernel
theorem dX6_worths_24 : decode cX6_worths 24 = .ok (.goto 4, 3) := by decide +kernel
theorem dX6_worths_27 : decode cX6_worths 27 = .ok (.iconst 0, 1) := by decide +kernel
theorem dX6_worths_28 : decode cX6_worths 28 = .ok (.iadd, 1) := by decide +kernel
theorem dX6_worths_29 : decode cX6_worths 29 = .ok (.istore_n 1, 1) := by decide +kernel
theorem dX6_worths_30 : decode cX6_worths 30 = .ok (.iinc 2 1, 3) := by decide +kernel
theorem dX6_worths_33 : decode cX6_worths 33 = .ok (.goto (-29), 3) := by decide +kernel
theorem dX6_worths_36 : decode cX6_worths 36 = .ok (.iload_n 1, 1) := by decide +kernel
theorem dX6_worths_37 : decode cX6_worths 37 = .ok (.ireturn, 1) := by decide +kernel
theorem dX6_said_0 : decode cX6_said 0 = .ok (.iload_n 0, 1) := by decide +kernel
theorem dX6_said_1 : decode cX6_said 1 = .ok (.istore_n 1, 1) := by decide +kernel
theorem dX6_said_2 : decode cX6_said 2 = .ok (.iconst 0, 1) := by decide +kernel
theorem dX6_said_3 : decode cX6_said 3 = .ok (.istore_n 2, 1) := by decide +kernel
theorem dX6_said_4 : decode cX6_said 4 = .ok (.bipush 17, 2) := by decide +kernel
theorem dX6_said_6 : decode cX6_said 6 = .ok (.istore_n 3, 1) := by decide +kernel
theorem dX6_said_7 : decode cX6_said 7 = .ok (.iload_n 3, 1) := by decide +kernel
theorem dX6_said_8 : decode cX6_said 8 = .ok (.ifCond .lt 30, 3) := by decide +kernel
theorem dX6_said_11 : decode cX6_said 11 = .ok (.iload_n 3, 1) := by decide +kernel
theorem dX6_said_12 : decode cX6_said 12 = .ok (.invokestatic 33, 3) := by decide +kernel
theorem dX6_said_15 : decode cX6_said 15 = .ok (.iload_n 1, 1) := by decide +kernel
theorem dX6_said_16 : decode cX6_said 16 = .ok (.if_icmp .gt 16, 3) := by decide +kernel
theorem dX6_said_19 : decode cX6_said 19 = .ok (.iload_n 1, 1) := by decide +kernel
theorem dX6_said_20 : decode cX6_said 20 = .ok (.iload_n 3, 1) := by decide +kernel
theorem dX6_said_21 : decode cX6_said 21 = .ok (.invokestatic 33, 3) := by decide +kernel
theorem dX6_said_24 : decode cX6_said 24 = .ok (.isub, 1) := by decide +kernel
theorem dX6_said_25 : decode cX6_said 25 = .ok (.istore_n 1, 1) := by decide +kernel
theorem dX6_said_26 : decode cX6_said 26 = .ok (.iload_n 2, 1) := by decide +kernel
theorem dX6_said_27 : decode cX6_said 27 = .ok (.iconst 1, 1) := by decide +kernel
theorem dX6_said_28 : decode cX6_said 28 = .ok (.iload_n 3, 1) := by decide +kernel
theorem dX6_said_29 : decode cX6_said 29 = .ok (.ishl, 1) := by decide +kernel
theorem dX6_said_30 : decode cX6_said 30 = .ok (.ior, 1) := by decide +kernel
theorem dX6_said_31 : decode cX6_said 31 = .ok (.istore_n 2, 1) := by decide +kernel
theorem dX6_said_32 : decode cX6_said 32 = .ok (.iinc 3 (-1), 3) := by decide +kernel
theorem dX6_said_35 : decode cX6_said 35 = .ok (.goto (-28), 3) := by decide +kernel
theorem dX6_said_38 : decode cX6_said 38 = .ok (.iload_n 2, 1) := by decide +kernel
theorem dX6_said_39 : decode cX6_said 39 = .ok (.ireturn, 1) := by decide +kernel
theorem dX6_full_0 : decode cX6_full 0 = .ok (.iload_n 0, 1) := by decide +kernel
theorem dX6_full_1 : decode cX6_full 1 = .ok (.istore_n 1, 1) := by decide +kernel
theorem dX6_full_2 : decode cX6_full 2 = .ok (.iconst 0, 1) := by decide +kernel
theorem dX6_full_3 : decode cX6_full 3 = .ok (.istore_n 2, 1) := by decide +kernel
theorem dX6_full_4 : decode cX6_full 4 = .ok (.bipush 17, 2) := by decide +kernel
theorem dX6_full_6 : decode cX6_full 6 = .ok (.istore_n 3, 1) := by decide +kernel
theorem dX6_full_7 : decode cX6_full 7 = .ok (.iload_n 3, 1) := by decide +kernel
theorem dX6_full_8 : decode cX6_full 8 = .ok (.ifCond .lt 34, 3) := by decide +kernel
theorem dX6_full_11 : decode cX6_full 11 = .ok (.iload_n 1, 1) := by decide +kernel
theorem dX6_full_12 : decode cX6_full 12 = .ok (.iconst 1, 1) := by decide +kernel
theorem dX6_full_13 : decode cX6_full 13 = .ok (.iload_n 3, 1) := by decide +kernel
theorem dX6_full_14 : decode cX6_full 14 = .ok (.ishl, 1) := by decide +kernel
theorem dX6_full_15 : decode cX6_full 15 = .ok (.iconst 1, 1) := by decide +kernel
theorem dX6_full_16 : decode cX6_full 16 = .ok (.isub, 1) := by decide +kernel
theorem dX6_full_17 : decode cX6_full 17 = .ok (.invokestatic 37, 3) := by decide +kernel
theorem dX6_full_20 : decode cX6_full 20 = .ok (.if_icmp .le 16, 3) := by decide +kernel
theorem dX6_full_23 : decode cX6_full 23 = .ok (.iload_n 1, 1) := by decide +kernel
theorem dX6_full_24 : decode cX6_full 24 = .ok (.iload_n 3, 1) := by decide +kernel
theorem dX6_full_25 : decode cX6_full 25 = .ok (.invokestatic 33, 3) := by decide +kernel
theorem dX6_full_28 : decode cX6_full 28 = .ok (.isub, 1) := by decide +kernel
theorem dX6_full_29 : decode cX6_full 29 = .ok (.istore_n 1, 1) := by decide +kernel
theorem dX6_full_30 : decode cX6_full 30 = .ok (.iload_n 2, 1) := by decide +kernel
theorem dX6_full_31 : decode cX6_full 31 = .ok (.iconst 1, 1) := by decide +kernel
theorem dX6_full_32 : decode cX6_full 32 = .ok (.iload_n 3, 1) := by decide +kernel
theorem dX6_full_33 : decode cX6_full 33 = .ok (.ishl, 1) := by decide +kernel
theorem dX6_full_34 : decode cX6_full 34 = .ok (.ior, 1) := by decide +kernel
theorem dX6_full_35 : decode cX6_full 35 = .ok (.istore_n 2, 1) := by decide +kernel
theorem dX6_full_36 : decode cX6_full 36 = .ok (.iinc 3 (-1), 3) := by decide +kernel
theorem dX6_full_39 : decode cX6_full 39 = .ok (.goto (-32), 3) := by decide +kernel
theorem dX6_full_42 : decode cX6_full 42 = .ok (.iload_n 2, 1) := by decide +kernel
theorem dX6_full_43 : decode cX6_full 43 = .ok (.ireturn, 1) := by decide +kernel
theorem dX6_many_0 : decode cX6_many 0 = .ok (.iconst 0, 1) := by decide +kernel
theorem dX6_many_1 : decode cX6_many 1 = .ok (.istore_n 1, 1) := by decide +kernel
theorem dX6_many_2 : decode cX6_many 2 = .ok (.iconst 0, 1) := by decide +kernel
theorem dX6_many_3 : decode cX6_many 3 = .ok (.istore_n 2, 1) := by decide +kernel
theorem dX6_many_4 : decode cX6_many 4 = .ok (.iload_n 2, 1) := by decide +kernel
theorem dX6_many_5 : decode cX6_many 5 = .ok (.bipush 22, 2) := by decide +kernel
theorem dX6_many_7 : decode cX6_many 7 = .ok (.if_icmp .ge 17, 3) := by decide +kernel
theorem dX6_many_10 : decode cX6_many 10 = .ok (.iload_n 1, 1) := by decide +kernel
theorem dX6_many_11 : decode cX6_many 11 = .ok (.iload_n 0, 1) := by decide +kernel
theorem dX6_many_12 : decode cX6_many 12 = .ok (.iload_n 2, 1) := by decide +kernel
theorem dX6_many_13 : decode cX6_many 13 = .ok (.ishr, 1) := by decide +kernel
theorem dX6_many_14 : decode cX6_many 14 = .ok (.iconst 1, 1) := by decide +kernel
theorem dX6_many_15 : decode cX6_many 15 = .ok (.iand, 1) := by decide +kernel
theorem dX6_many_16 : decode cX6_many 16 = .ok (.iadd, 1) := by decide +kernel
theorem dX6_many_17 : decode cX6_many 17 = .ok (.istore_n 1, 1) := by decide +kernel
theorem dX6_many_18 : decode cX6_many 18 = .ok (.iinc 2 1, 3) := by decide +kernel
theorem dX6_many_21 : decode cX6_many 21 = .ok (.goto (-17), 3) := by decide +kernel
theorem dX6_many_24 : decode cX6_many 24 = .ok (.iload_n 1, 1) := by decide +kernel
theorem dX6_many_25 : decode cX6_many 25 = .ok (.ireturn, 1) := by decide +kernel
theorem dX6_step_0 : decode cX6_step 0 = .ok (.iload_n 1, 1) := by decide +kernel
theorem dX6_step_1 : decode cX6_step 1 = .ok (.istore_n 2, 1) := by decide +kernel
theorem dX6_step_2 : decode cX6_step 2 = .ok (.iconst (-1), 1) := by decide +kernel
theorem dX6_step_3 : decode cX6_step 3 = .ok (.istore_n 3, 1) := by decide +kernel
theorem dX6_step_4 : decode cX6_step 4 = .ok (.iconst 0, 1) := by decide +kernel
theorem dX6_step_5 : decode cX6_step 5 = .ok (.istore 4, 2) := by decide +kernel
theorem dX6_step_7 : decode cX6_step 7 = .ok (.iload 4, 2) := by decide +kernel
theorem dX6_step_9 : decode cX6_step 9 = .ok (.bipush 22, 2) := by decide +kernel
theorem dX6_step_11 : decode cX6_step 11 = .ok (.if_icmp .ge 55, 3) := by decide +kernel
theorem dX6_step_14 : decode cX6_step 14 = .ok (.iload_n 0, 1) := by decide +kernel
theorem dX6_step_15 : decode cX6_step 15 = .ok (.iload 4, 2) := by decide +kernel
theorem dX6_step_17 : decode cX6_step 17 = .ok (.ishr, 1) := by decide +kernel
theorem dX6_step_18 : decode cX6_step 18 = .ok (.iconst 1, 1) := by decide +kernel
theorem dX6_step_19 : decode cX6_step 19 = .ok (.iand, 1) := by decide +kernel
theorem dX6_step_20 : decode cX6_step 20 = .ok (.iconst 1, 1) := by decide +kernel
theorem dX6_step_21 : decode cX6_step 21 = .ok (.if_icmp .ne 7, 3) := by decide +kernel
theorem dX6_step_24 : decode cX6_step 24 = .ok (.iconst 1, 1) := by decide +kernel
theorem dX6_step_25 : decode cX6_step 25 = .ok (.goto 4, 3) := by decide +kernel
theorem dX6_step_28 : decode cX6_step 28 = .ok (.iconst 0, 1) := by decide +kernel
theorem dX6_step_29 : decode cX6_step 29 = .ok (.istore 5, 2) := by decide +kernel
theorem dX6_step_31 : decode cX6_step 31 = .ok (.iload 5, 2) := by decide +kernel
theorem dX6_step_33 : decode cX6_step 33 = .ok (.ifCond .eq 12, 3) := by decide +kernel
theorem dX6_step_36 : decode cX6_step 36 = .ok (.iload_n 2, 1) := by decide +kernel
theorem dX6_step_37 : decode cX6_step 37 = .ok (.ifCond .ne 8, 3) := by decide +kernel
theorem dX6_step_40 : decode cX6_step 40 = .ok (.iload 4, 2) := by decide +kernel
theorem dX6_step_42 : decode cX6_step 42 = .ok (.goto 4, 3) := by decide +kernel
theorem dX6_step_45 : decode cX6_step 45 = .ok (.iload_n 3, 1) := by decide +kernel
theorem dX6_step_46 : decode cX6_step 46 = .ok (.istore_n 3, 1) := by decide +kernel
theorem dX6_step_47 : decode cX6_step 47 = .ok (.iload_n 2, 1) := by decide +kernel
theorem dX6_step_48 : decode cX6_step 48 = .ok (.iload 5, 2) := by decide +kernel
theorem dX6_step_50 : decode cX6_step 50 = .ok (.ifCond .eq 7, 3) := by decide +kernel
theorem dX6_step_53 : decode cX6_step 53 = .ok (.iconst 1, 1) := by decide +kernel
theorem dX6_step_54 : decode cX6_step 54 = .ok (.goto 4, 3) := by decide +kernel
theorem dX6_step_57 : decode cX6_step 57 = .ok (.iconst 0, 1) := by decide +kernel
theorem dX6_step_58 : decode cX6_step 58 = .ok (.isub, 1) := by decide +kernel
theorem dX6_step_59 : decode cX6_step 59 = .ok (.istore_n 2, 1) := by decide +kernel
theorem dX6_step_60 : decode cX6_step 60 = .ok (.iinc 4 1, 3) := by decide +kernel
theorem dX6_step_63 : decode cX6_step 63 = .ok (.goto (-56), 3) := by decide +kernel
theorem dX6_step_66 : decode cX6_step 66 = .ok (.iload_n 3, 1) := by decide +kernel
theorem dX6_step_67 : decode cX6_step 67 = .ok (.ireturn, 1) := by decide +kernel
theorem dX6_countWays_0 : decode cX6_countWays 0 = .ok (.iload_n 0, 1) := by decide +kernel
theorem dX6_countWays_1 : decode cX6_countWays 1 = .ok (.invokestatic 40, 3) := by decide +kernel
theorem dX6_countWays_4 : decode cX6_countWays 4 = .ok (.istore_n 1, 1) := by decide +kernel
theorem dX6_countWays_5 : decode cX6_countWays 5 = .ok (.iconst 1, 1) := by decide +kernel
theorem dX6_countWays_6 : decode cX6_countWays 6 = .ok (.istore_n 2, 1) := by decide +kernel
theorem dX6_countWays_7 : decode cX6_countWays 7 = .ok (.iload_n 0, 1) := by decide +kernel
theorem dX6_countWays_8 : decode cX6_countWays 8 = .ok (.ifCond .ne 7, 3) := by decide +kernel
theorem dX6_countWays_11 : decode cX6_countWays 11 = .ok (.iconst 0, 1) := by decide +kernel
theorem dX6_countWays_12 : decode cX6_countWays 12 = .ok (.goto 10, 3) := by decide +kernel
theorem dX6_countWays_15 : decode cX6_countWays 15 = .ok (.iload_n 1, 1) := by decide +kernel
theorem dX6_countWays_16 : decode cX6_countWays 16 = .ok (.iconst 0, 1) := by decide +kernel
theorem dX6_countWays_17 : decode cX6_countWays 17 = .ok (.invokestatic 43, 3) := by decide +kernel
theorem dX6_countWays_20 : decode cX6_countWays 20 = .ok (.iconst 2, 1) := by decide +kernel
theorem dX6_countWays_21 : decode cX6_countWays 21 = .ok (.idiv, 1) := by decide +kernel
theorem dX6_countWays_22 : decode cX6_countWays 22 = .ok (.istore_n 3, 1) := by decide +kernel
theorem dX6_countWays_23 : decode cX6_countWays 23 = .ok (.iconst 1, 1) := by decide +kernel
theorem dX6_countWays_24 : decode cX6_countWays 24 = .ok (.istore 4, 2) := by decide +kernel
theorem dX6_countWays_26 : decode cX6_countWays 26 = .ok (.iload 4, 2) := by decide +kernel
theorem dX6_countWays_28 : decode cX6_countWays 28 = .ok (.iload_n 1, 1) := by decide +kernel
theorem dX6_countWays_29 : decode cX6_countWays 29 = .ok (.invokestatic 47, 3) := by decide +kernel
theorem dX6_countWays_32 : decode cX6_countWays 32 = .ok (.if_icmp .ge 50, 3) := by decide +kernel
theorem dX6_countWays_35 : decode cX6_countWays 35 = .ok (.iload_n 1, 1) := by decide +kernel
theorem dX6_countWays_36 : decode cX6_countWays 36 = .ok (.iload 4, 2) := by decide +kernel
theorem dX6_countWays_38 : decode cX6_countWays 38 = .ok (.invokestatic 43, 3) := by decide +kernel
theorem dX6_countWays_41 : decode cX6_countWays 41 = .ok (.iload_n 1, 1) := by decide +kernel
theorem dX6_countWays_42 : decode cX6_countWays 42 = .ok (.iload 4, 2) := by decide +kernel
theorem dX6_countWays_44 : decode cX6_countWays 44 = .ok (.iconst 1, 1) := by decide +kernel
theorem dX6_countWays_45 : decode cX6_countWays 45 = .ok (.isub, 1) := by decide +kernel
theorem dX6_countWays_46 : decode cX6_countWays 46 = .ok (.invokestatic 43, 3) := by decide +kernel
theorem dX6_countWays_49 : decode cX6_countWays 49 = .ok (.isub, 1) := by decide +kernel
theorem dX6_countWays_50 : decode cX6_countWays 50 = .ok (.istore 5, 2) := by decide +kernel
theorem dX6_countWays_52 : decode cX6_countWays 52 = .ok (.iload_n 2, 1) := by decide +kernel
theorem dX6_countWays_53 : decode cX6_countWays 53 = .ok (.iload_n 3, 1) := by decide +kernel
theorem dX6_countWays_54 : decode cX6_countWays 54 = .ok (.iadd, 1) := by decide +kernel
theorem dX6_countWays_55 : decode cX6_countWays 55 = .ok (.istore 6, 2) := by decide +kernel
theorem dX6_countWays_57 : decode cX6_countWays 57 = .ok (.iload_n 2, 1) := by decide +kernel
theorem dX6_countWays_58 : decode cX6_countWays 58 = .ok (.iload 5, 2) := by decide +kernel
theorem dX6_countWays_60 : decode cX6_countWays 60 = .ok (.iconst 1, 1) := by decide +kernel
theorem dX6_countWays_61 : decode cX6_countWays 61 = .ok (.isub, 1) := by decide +kernel
theorem dX6_countWays_62 : decode cX6_countWays 62 = .ok (.iconst 2, 1) := by decide +kernel
theorem dX6_countWays_63 : decode cX6_countWays 63 = .ok (.idiv, 1) := by decide +kernel
theorem dX6_countWays_64 : decode cX6_countWays 64 = .ok (.imul, 1) := by decide +kernel
theorem dX6_countWays_65 : decode cX6_countWays 65 = .ok (.iload_n 3, 1) := by decide +kernel
theorem dX6_countWays_66 : decode cX6_countWays 66 = .ok (.iload 5, 2) := by decide +kernel
theorem dX6_countWays_68 : decode cX6_countWays 68 = .ok (.iconst 2, 1) := by decide +kernel
theorem dX6_countWays_69 : decode cX6_countWays 69 = .ok (.idiv, 1) := by decide +kernel
theorem dX6_countWays_70 : decode cX6_countWays 70 = .ok (.imul, 1) := by decide +kernel
theorem dX6_countWays_71 : decode cX6_countWays 71 = .ok (.iadd, 1) := by decide +kernel
theorem dX6_countWays_72 : decode cX6_countWays 72 = .ok (.istore_n 3, 1) := by decide +kernel
theorem dX6_countWays_73 : decode cX6_countWays 73 = .ok (.iload 6, 2) := by decide +kernel
theorem dX6_countWays_75 : decode cX6_countWays 75 = .ok (.istore_n 2, 1) := by decide +kernel
theorem dX6_countWays_76 : decode cX6_countWays 76 = .ok (.iinc 4 1, 3) := by decide +kernel
theorem dX6_countWays_79 : decode cX6_countWays 79 = .ok (.goto (-53), 3) := by decide +kernel
theorem dX6_countWays_82 : decode cX6_countWays 82 = .ok (.iload_n 2, 1) := by decide +kernel
theorem dX6_countWays_83 : decode cX6_countWays 83 = .ok (.iload_n 3, 1) := by decide +kernel
theorem dX6_countWays_84 : decode cX6_countWays 84 = .ok (.iadd, 1) := by decide +kernel
theorem dX6_countWays_85 : decode cX6_countWays 85 = .ok (.ireturn, 1) := by decide +kernel
theorem dX6_adds_0 : decode cX6_adds 0 = .ok (.iconst 0, 1) := by decide +kernel
theorem dX6_adds_1 : decode cX6_adds 1 = .ok (.istore_n 3, 1) := by decide +kernel
theorem dX6_adds_2 : decode cX6_adds 2 = .ok (.iload_n 3, 1) := by decide +kernel
theorem dX6_adds_3 : decode cX6_adds 3 = .ok (.bipush 24, 2) := by decide +kernel
theorem dX6_adds_5 : decode cX6_adds 5 = .ok (.if_icmp .ge 26, 3) := by decide +kernel
theorem dX6_adds_8 : decode cX6_adds 8 = .ok (.aload_n 0, 1) := by decide +kernel
theorem dX6_adds_9 : decode cX6_adds 9 = .ok (.getfield 16, 3) := by decide +kernel
theorem dX6_adds_12 : decode cX6_adds 12 = .ok (.iload_n 3, 1) := by decide +kernel
theorem dX6_adds_13 : decode cX6_adds 13 = .ok (.iload_n 1, 1) := by decide +kernel
theorem dX6_adds_14 : decode cX6_adds 14 = .ok (.iload_n 3, 1) := by decide +kernel
theorem dX6_adds_15 : decode cX6_adds 15 = .ok (.ishr, 1) := by decide +kernel
theorem dX6_adds_16 : decode cX6_adds 16 = .ok (.iconst 1, 1) := by decide +kernel
theorem dX6_adds_17 : decode cX6_adds 17 = .ok (.iand, 1) := by decide +kernel
theorem dX6_adds_18 : decode cX6_adds 18 = .ok (.iload_n 2, 1) := by decide +kernel
theorem dX6_adds_19 : decode cX6_adds 19 = .ok (.iload_n 3, 1) := by decide +kernel
theorem dX6_adds_20 : decode cX6_adds 20 = .ok (.ishr, 1) := by decide +kernel
theorem dX6_adds_21 : decode cX6_adds 21 = .ok (.iconst 1, 1) := by decide +kernel
theorem dX6_adds_22 : decode cX6_adds 22 = .ok (.iand, 1) := by decide +kernel
theorem dX6_adds_23 : decode cX6_adds 23 = .ok (.iadd, 1) := by decide +kernel
theorem dX6_adds_24 : decode cX6_adds 24 = .ok (.iastore, 1) := by decide +kernel
theorem dX6_adds_25 : decode cX6_adds 25 = .ok (.iinc 3 1, 3) := by decide +kernel
theorem dX6_adds_28 : decode cX6_adds 28 = .ok (.goto (-26), 3) := by decide +kernel
theorem dX6_adds_31 : decode cX6_adds 31 = .ok (.aload_n 0, 1) := by decide +kernel
theorem dX6_adds_32 : decode cX6_adds 32 = .ok (.iconst 0, 1) := by decide +kernel
theorem dX6_adds_33 : decode cX6_adds 33 = .ok (.putfield 50, 3) := by decide +kernel
theorem dX6_adds_36 : decode cX6_adds 36 = .ok (.bipush 19, 2) := by decide +kernel
theorem dX6_adds_38 : decode cX6_adds 38 = .ok (.istore_n 3, 1) := by decide +kernel
theorem dX6_adds_39 : decode cX6_adds 39 = .ok (.iload_n 3, 1) := by decide +kernel
theorem dX6_adds_40 : decode cX6_adds 40 = .ok (.ifCond .lt 46, 3) := by decide +kernel
theorem dX6_adds_43 : decode cX6_adds 43 = .ok (.aload_n 0, 1) := by decide +kernel
theorem dX6_adds_44 : decode cX6_adds 44 = .ok (.iload_n 3, 1) := by decide +kernel
theorem dX6_adds_45 : decode cX6_adds 45 = .ok (.invokevirtual 53, 3) := by decide +kernel
theorem dX6_adds_48 : decode cX6_adds 48 = .ok (.istore 4, 2) := by decide +kernel
theorem dX6_adds_50 : decode cX6_adds 50 = .ok (.aload_n 0, 1) := by decide +kernel
theorem dX6_adds_51 : decode cX6_adds 51 = .ok (.dup, 1) := by decide +kernel
theorem dX6_adds_52 : decode cX6_adds 52 = .ok (.getfield 50, 3) := by decide +kernel
theorem dX6_adds_55 : decode cX6_adds 55 = .ok (.iload 4, 2) := by decide +kernel
theorem dX6_adds_57 : decode cX6_adds 57 = .ok (.ifCond .eq 7, 3) := by decide +kernel
theorem dX6_adds_60 : decode cX6_adds 60 = .ok (.iconst 1, 1) := by decide +kernel
theorem dX6_adds_61 : decode cX6_adds 61 = .ok (.goto 4, 3) := by decide +kernel
theorem dX6_adds_64 : decode cX6_adds 64 = .ok (.iconst 0, 1) := by decide +kernel
theorem dX6_adds_65 : decode cX6_adds 65 = .ok (.iadd, 1) := by decide +kernel
theorem dX6_adds_66 : decode cX6_adds 66 = .ok (.putfield 50, 3) := by decide +kernel
theorem dX6_adds_69 : decode cX6_adds 69 = .ok (.iload 4, 2) := by decide +kernel
theorem dX6_adds_71 : decode cX6_adds 71 = .ok (.ifCond .eq 8, 3) := by decide +kernel
theorem dX6_adds_74 : decode cX6_adds 74 = .ok (.bipush 19, 2) := by decide +kernel
theorem dX6_adds_76 : decode cX6_adds 76 = .ok (.goto 6, 3) := by decide +kernel
theorem dX6_adds_79 : decode cX6_adds 79 = .ok (.iload_n 3, 1) := by decide +kernel
theorem dX6_adds_80 : decode cX6_adds 80 = .ok (.iconst 1, 1) := by decide +kernel
theorem dX6_adds_81 : decode cX6_adds 81 = .ok (.isub, 1) := by decide +kernel
theorem dX6_adds_82 : decode cX6_adds 82 = .ok (.istore_n 3, 1) := by decide +kernel
theorem dX6_adds_83 : decode cX6_adds 83 = .ok (.goto (-44), 3) := by decide +kernel
theorem dX6_adds_86 : decode cX6_adds 86 = .ok (.iconst 0, 1) := by decide +kernel
theorem dX6_adds_87 : decode cX6_adds 87 = .ok (.istore 4, 2) := by decide +kernel
theorem dX6_adds_89 : decode cX6_adds 89 = .ok (.iconst 0, 1) := by decide +kernel
theorem dX6_adds_90 : decode cX6_adds 90 = .ok (.istore 5, 2) := by decide +kernel
theorem dX6_adds_92 : decode cX6_adds 92 = .ok (.iload 5, 2) := by decide +kernel
theorem dX6_adds_94 : decode cX6_adds 94 = .ok (.bipush 24, 2) := by decide +kernel
theorem dX6_adds_96 : decode cX6_adds 96 = .ok (.if_icmp .ge 24, 3) := by decide +kernel
theorem dX6_adds_99 : decode cX6_adds 99 = .ok (.iload 4, 2) := by decide +kernel
theorem dX6_adds_101 : decode cX6_adds 101 = .ok (.aload_n 0, 1) := by decide +kernel
theorem dX6_adds_102 : decode cX6_adds 102 = .ok (.getfield 16, 3) := by decide +kernel
theorem dX6_adds_105 : decode cX6_adds 105 = .ok (.iload 5, 2) := by decide +kernel
theorem dX6_adds_107 : decode cX6_adds 107 = .ok (.iaload, 1) := by decide +kernel
theorem dX6_adds_108 : decode cX6_adds 108 = .ok (.iload 5, 2) := by decide +kernel
theorem dX6_adds_110 : decode cX6_adds 110 = .ok (.ishl, 1) := by decide +kernel
theorem dX6_adds_111 : decode cX6_adds 111 = .ok (.ior, 1) := by decide +kernel
theorem dX6_adds_112 : decode cX6_adds 112 = .ok (.istore 4, 2) := by decide +kernel
theorem dX6_adds_114 : decode cX6_adds 114 = .ok (.iinc 5 1, 3) := by decide +kernel
theorem dX6_adds_117 : decode cX6_adds 117 = .ok (.goto (-25), 3) := by decide +kernel
theorem dX6_adds_120 : decode cX6_adds 120 = .ok (.iload 4, 2) := by decide +kernel
theorem dX6_adds_122 : decode cX6_adds 122 = .ok (.ireturn, 1) := by decide +kernel
theorem dX6_carry_0 : decode cX6_carry 0 = .ok (.aload_n 0, 1) := by decide +kernel
theorem dX6_carry_1 : decode cX6_carry 1 = .ok (.getfield 16, 3) := by decide +kernel
theorem dX6_carry_4 : decode cX6_carry 4 = .ok (.iload_n 1, 1) := by decide +kernel
theorem dX6_carry_5 : decode cX6_carry 5 = .ok (.iaload, 1) := by decide +kernel
theorem dX6_carry_6 : decode cX6_carry 6 = .ok (.ifCond .le 50, 3) := by decide +kernel
theorem dX6_carry_9 : decode cX6_carry 9 = .ok (.aload_n 0, 1) := by decide +kernel
theorem dX6_carry_10 : decode cX6_carry 10 = .ok (.getfield 16, 3) := by decide +kernel
theorem dX6_carry_13 : decode cX6_carry 13 = .ok (.iload_n 1, 1) := by decide +kernel
theorem dX6_carry_14 : decode cX6_carry 14 = .ok (.iconst 1, 1) := by decide +kernel
theorem dX6_carry_15 : decode cX6_carry 15 = .ok (.iadd, 1) := by decide +kernel
theorem dX6_carry_16 : decode cX6_carry 16 = .ok (.iaload, 1) := by decide +kernel
theorem dX6_carry_17 : decode cX6_carry 17 = .ok (.ifCond .le 39, 3) := by decide +kernel
theorem dX6_carry_20 : decode cX6_carry 20 = .ok (.aload_n 0, 1) := by decide +kernel
theorem dX6_carry_21 : decode cX6_carry 21 = .ok (.getfield 16, 3) := by decide +kernel
theorem dX6_carry_24 : decode cX6_carry 24 = .ok (.iload_n 1, 1) := by decide +kernel
theorem dX6_carry_25 : decode cX6_carry 25 = .ok (.dup2, 1) := by decide +kernel
theorem dX6_carry_26 : decode cX6_carry 26 = .ok (.iaload, 1) := by decide +kernel
theorem dX6_carry_27 : decode cX6_carry 27 = .ok (.iconst 1, 1) := by decide +kernel
theorem dX6_carry_28 : decode cX6_carry 28 = .ok (.isub, 1) := by decide +kernel
theorem dX6_carry_29 : decode cX6_carry 29 = .ok (.iastore, 1) := by decide +kernel
theorem dX6_carry_30 : decode cX6_carry 30 = .ok (.aload_n 0, 1) := by decide +kernel
theorem dX6_carry_31 : decode cX6_carry 31 = .ok (.getfield 16, 3) := by decide +kernel
theorem dX6_carry_34 : decode cX6_carry 34 = .ok (.iload_n 1, 1) := by decide +kernel
theorem dX6_carry_35 : decode cX6_carry 35 = .ok (.iconst 1, 1) := by decide +kernel
theorem dX6_carry_36 : decode cX6_carry 36 = .ok (.iadd, 1) := by decide +kernel
theorem dX6_carry_37 : decode cX6_carry 37 = .ok (.dup2, 1) := by decide +kernel
theorem dX6_carry_38 : decode cX6_carry 38 = .ok (.iaload, 1) := by decide +kernel
theorem dX6_carry_39 : decode cX6_carry 39 = .ok (.iconst 1, 1) := by decide +kernel
theorem dX6_carry_40 : decode cX6_carry 40 = .ok (.isub, 1) := by decide +kernel
theorem dX6_carry_41 : decode cX6_carry 41 = .ok (.iastore, 1) := by decide +kernel
theorem dX6_carry_42 : decode cX6_carry 42 = .ok (.aload_n 0, 1) := by decide +kernel
theorem dX6_carry_43 : decode cX6_carry 43 = .ok (.getfield 16, 3) := by decide +kernel
theorem dX6_carry_46 : decode cX6_carry 46 = .ok (.iload_n 1, 1) := by decide +kernel
theorem dX6_carry_47 : decode cX6_carry 47 = .ok (.iconst 2, 1) := by decide +kernel
theorem dX6_carry_48 : decode cX6_carry 48 = .ok (.iadd, 1) := by decide +kernel
theorem dX6_carry_49 : decode cX6_carry 49 = .ok (.dup2, 1) := by decide +kernel
theorem dX6_carry_50 : decode cX6_carry 50 = .ok (.iaload, 1) := by decide +kernel
theorem dX6_carry_51 : decode cX6_carry 51 = .ok (.iconst 1, 1) := by decide +kernel
theorem dX6_carry_52 : decode cX6_carry 52 = .ok (.iadd, 1) := by decide +kernel
theorem dX6_carry_53 : decode cX6_carry 53 = .ok (.iastore, 1) := by decide +kernel
theorem dX6_carry_54 : decode cX6_carry 54 = .ok (.iconst 1, 1) := by decide +kernel
theorem dX6_carry_55 : decode cX6_carry 55 = .ok (.ireturn, 1) := by decide +kernel
theorem dX6_carry_56 : decode cX6_carry 56 = .ok (.aload_n 0, 1) := by decide +kernel
theorem dX6_carry_57 : decode cX6_carry 57 = .ok (.getfield 16, 3) := by decide +kernel
theorem dX6_carry_60 : decode cX6_carry 60 = .ok (.iload_n 1, 1) := by decide +kernel
theorem dX6_carry_61 : decode cX6_carry 61 = .ok (.iaload, 1) := by decide +kernel
theorem dX6_carry_62 : decode cX6_carry 62 = .ok (.iconst 1, 1) := by decide +kernel
theorem dX6_carry_63 : decode cX6_carry 63 = .ok (.if_icmp .le 52, 3) := by decide +kernel
theorem dX6_carry_66 : decode cX6_carry 66 = .ok (.aload_n 0, 1) := by decide +kernel
theorem dX6_carry_67 : decode cX6_carry 67 = .ok (.getfield 16, 3) := by decide +kernel
theorem dX6_carry_70 : decode cX6_carry 70 = .ok (.iload_n 1, 1) := by decide +kernel
theorem dX6_carry_71 : decode cX6_carry 71 = .ok (.dup2, 1) := by decide +kernel
theorem dX6_carry_72 : decode cX6_carry 72 = .ok (.iaload, 1) := by decide +kernel
theorem dX6_carry_73 : decode cX6_carry 73 = .ok (.iconst 2, 1) := by decide +kernel
theorem dX6_carry_74 : decode cX6_carry 74 = .ok (.isub, 1) := by decide +kernel
theorem dX6_carry_75 : decode cX6_carry 75 = .ok (.iastore, 1) := by decide +kernel
theorem dX6_carry_76 : decode cX6_carry 76 = .ok (.aload_n 0, 1) := by decide +kernel
theorem dX6_carry_77 : decode cX6_carry 77 = .ok (.getfield 16, 3) := by decide +kernel
theorem dX6_carry_80 : decode cX6_carry 80 = .ok (.iload_n 1, 1) := by decide +kernel
theorem dX6_carry_81 : decode cX6_carry 81 = .ok (.iconst 1, 1) := by decide +kernel
theorem dX6_carry_82 : decode cX6_carry 82 = .ok (.iadd, 1) := by decide +kernel
theorem dX6_carry_83 : decode cX6_carry 83 = .ok (.dup2, 1) := by decide +kernel
theorem dX6_carry_84 : decode cX6_carry 84 = .ok (.iaload, 1) := by decide +kernel
theorem dX6_carry_85 : decode cX6_carry 85 = .ok (.iconst 1, 1) := by decide +kernel
theorem dX6_carry_86 : decode cX6_carry 86 = .ok (.iadd, 1) := by decide +kernel
theorem dX6_carry_87 : decode cX6_carry 87 = .ok (.iastore, 1) := by decide +kernel
theorem dX6_carry_88 : decode cX6_carry 88 = .ok (.iload_n 1, 1) := by decide +kernel
theorem dX6_carry_89 : decode cX6_carry 89 = .ok (.ifCond .le 24, 3) := by decide +kernel
theorem dX6_carry_92 : decode cX6_carry 92 = .ok (.aload_n 0, 1) := by decide +kernel
theorem dX6_carry_93 : decode cX6_carry 93 = .ok (.getfield 16, 3) := by decide +kernel
theorem dX6_carry_96 : decode cX6_carry 96 = .ok (.iload_n 1, 1) := by decide +kernel
theorem dX6_carry_97 : decode cX6_carry 97 = .ok (.iconst 1, 1) := by decide +kernel
theorem dX6_carry_98 : decode cX6_carry 98 = .ok (.if_icmp .ne 7, 3) := by decide +kernel
theorem dX6_carry_101 : decode cX6_carry 101 = .ok (.iconst 0, 1) := by decide +kernel
theorem dX6_carry_102 : decode cX6_carry 102 = .ok (.goto 6, 3) := by decide +kernel
theorem dX6_carry_105 : decode cX6_carry 105 = .ok (.iload_n 1, 1) := by decide +kernel
theorem dX6_carry_106 : decode cX6_carry 106 = .ok (.iconst 2, 1) := by decide +kernel
theorem dX6_carry_107 : decode cX6_carry 107 = .ok (.isub, 1) := by decide +kernel
theorem dX6_carry_108 : decode cX6_carry 108 = .ok (.dup2, 1) := by decide +kernel
theorem dX6_carry_109 : decode cX6_carry 109 = .ok (.iaload, 1) := by decide +kernel
theorem dX6_carry_110 : decode cX6_carry 110 = .ok (.iconst 1, 1) := by decide +kernel
theorem dX6_carry_111 : decode cX6_carry 111 = .ok (.iadd, 1) := by decide +kernel
theorem dX6_carry_112 : decode cX6_carry 112 = .ok (.iastore, 1) := by decide +kernel
theorem dX6_carry_113 : decode cX6_carry 113 = .ok (.iconst 1, 1) := by decide +kernel
theorem dX6_carry_114 : decode cX6_carry 114 = .ok (.ireturn, 1) := by decide +kernel
theorem dX6_carry_115 : decode cX6_carry 115 = .ok (.iconst 0, 1) := by decide +kernel
theorem dX6_carry_116 : decode cX6_carry 116 = .ok (.ireturn, 1) := by decide +kernel
theorem dX6_isStall_0 : decode cX6_isStall 0 = .ok (.iload_n 0, 1) := by decide +kernel
theorem dX6_isStall_1 : decode cX6_isStall 1 = .ok (.iconst 0, 1) := by decide +kernel
theorem dX6_isStall_2 : decode cX6_isStall 2 = .ok (.iconst 5, 1) := by decide +kernel
theorem dX6_isStall_3 : decode cX6_isStall 3 = .ok (.invokestatic 57, 3) := by decide +kernel
theorem dX6_isStall_6 : decode cX6_isStall 6 = .ok (.ireturn, 1) := by decide +kernel
theorem dX6_isNumber_0 : decode cX6_isNumber 0 = .ok (.iload_n 0, 1) := by decide +kernel
theorem dX6_isNumber_1 : decode cX6_isNumber 1 = .ok (.iconst 0, 1) := by decide +kernel
theorem dX6_isNumber_2 : decode cX6_isNumber 2 = .ok (.sipush 6764, 3) := by decide +kernel
theorem dX6_isNumber_5 : decode cX6_isNumber 5 = .ok (.invokestatic 57, 3) := by decide +kernel
theorem dX6_isNumber_8 : decode cX6_isNumber 8 = .ok (.ireturn, 1) := by decide +kernel
theorem dX6_raised_0 : decode cX6_raised 0 = .ok (.aload_n 0, 1) := by decide +kernel
theorem dX6_raised_1 : decode cX6_raised 1 = .ok (.getfield 7, 3) := by decide +kernel
theorem dX6_raised_4 : decode cX6_raised 4 = .ok (.iload_n 1, 1) := by decide +kernel
theorem dX6_raised_5 : decode cX6_raised 5 = .ok (.iaload, 1) := by decide +kernel
theorem dX6_raised_6 : decode cX6_raised 6 = .ok (.invokestatic 40, 3) := by decide +kernel
theorem dX6_raised_9 : decode cX6_raised 9 = .ok (.iconst 1, 1) := by decide +kernel
theorem dX6_raised_10 : decode cX6_raised 10 = .ok (.ishl, 1) := by decide +kernel
theorem dX6_raised_11 : decode cX6_raised 11 = .ok (.invokestatic 37, 3) := by decide +kernel
theorem dX6_raised_14 : decode cX6_raised 14 = .ok (.ireturn, 1) := by decide +kernel
theorem dX6_canRaise_0 : decode cX6_canRaise 0 = .ok (.aload_n 0, 1) := by decide +kernel
theorem dX6_canRaise_1 : decode cX6_canRaise 1 = .ok (.getfield 7, 3) := by decide +kernel
theorem dX6_canRaise_4 : decode cX6_canRaise 4 = .ok (.iload_n 1, 1) := by decide +kernel
theorem dX6_canRaise_5 : decode cX6_canRaise 5 = .ok (.iaload, 1) := by decide +kernel
theorem dX6_canRaise_6 : decode cX6_canRaise 6 = .ok (.invokestatic 40, 3) := by decide +kernel
theorem dX6_canRaise_9 : decode cX6_canRaise 9 = .ok (.ldc 61, 2) := by decide +kernel
theorem dX6_canRaise_11 : decode cX6_canRaise 11 = .ok (.if_icmp .ge 7, 3) := by decide +kernel
theorem dX6_canRaise_14 : decode cX6_canRaise 14 = .ok (.iconst 1, 1) := by decide +kernel
theorem dX6_canRaise_15 : decode cX6_canRaise 15 = .ok (.goto 4, 3) := by decide +kernel
theorem dX6_canRaise_18 : decode cX6_canRaise 18 = .ok (.iconst 0, 1) := by decide +kernel
theorem dX6_canRaise_19 : decode cX6_canRaise 19 = .ok (.ireturn, 1) := by decide +kernel
theorem dX6_set_0 : decode cX6_set 0 = .ok (.aload_n 0, 1) := by decide +kernel
theorem dX6_set_1 : decode cX6_set 1 = .ok (.iload_n 1, 1) := by decide +kernel
theorem dX6_set_2 : decode cX6_set 2 = .ok (.invokestatic 62, 3) := by decide +kernel
theorem dX6_set_5 : decode cX6_set 5 = .ok (.iload_n 2, 1) := by decide +kernel
theorem dX6_set_6 : decode cX6_set 6 = .ok (.invokestatic 65, 3) := by decide +kernel
theorem dX6_set_9 : decode cX6_set 9 = .ok (.iconst 1, 1) := by decide +kernel
theorem dX6_set_10 : decode cX6_set 10 = .ok (.invokevirtual 68, 3) := by decide +kernel
theorem dX6_set_13 : decode cX6_set 13 = .ok (.ifCond .ne 5, 3) := by decide +kernel
theorem dX6_set_16 : decode cX6_set 16 = .ok (.iconst 0, 1) := by decide +kernel
theorem dX6_set_17 : decode cX6_set 17 = .ok (.ireturn, 1) := by decide +kernel
theorem dX6_set_18 : decode cX6_set 18 = .ok (.aload_n 0, 1) := by decide +kernel
theorem dX6_set_19 : decode cX6_set 19 = .ok (.invokevirtual 72, 3) := by decide +kernel
theorem dX6_set_22 : decode cX6_set 22 = .ok (.aload_n 0, 1) := by decide +kernel
theorem dX6_set_23 : decode cX6_set 23 = .ok (.getfield 7, 3) := by decide +kernel
theorem dX6_set_26 : decode cX6_set 26 = .ok (.iload_n 1, 1) := by decide +kernel
theorem dX6_set_27 : decode cX6_set 27 = .ok (.iaload, 1) := by decide +kernel
theorem dX6_set_28 : decode cX6_set 28 = .ok (.istore_n 3, 1) := by decide +kernel
theorem dX6_set_29 : decode cX6_set 29 = .ok (.aload_n 0, 1) := by decide +kernel
theorem dX6_set_30 : decode cX6_set 30 = .ok (.getfield 7, 3) := by decide +kernel
theorem dX6_set_33 : decode cX6_set 33 = .ok (.iload_n 1, 1) := by decide +kernel
theorem dX6_set_34 : decode cX6_set 34 = .ok (.iload_n 2, 1) := by decide +kernel
theorem dX6_set_35 : decode cX6_set 35 = .ok (.iastore, 1) := by decide +kernel
theorem dX6_set_36 : decode cX6_set 36 = .ok (.iload_n 3, 1) := by decide +kernel
theorem dX6_set_37 : decode cX6_set 37 = .ok (.ireturn, 1) := by decide +kernel
theorem dX6_add_0 : decode cX6_add 0 = .ok (.iload_n 1, 1) := by decide +kernel
theorem dX6_add_1 : decode cX6_add 1 = .ok (.invokestatic 62, 3) := by decide +kernel
theorem dX6_add_4 : decode cX6_add 4 = .ok (.ifCond .eq 14, 3) := by decide +kernel
theorem dX6_add_7 : decode cX6_add 7 = .ok (.iload_n 2, 1) := by decide +kernel
theorem dX6_add_8 : decode cX6_add 8 = .ok (.invokestatic 62, 3) := by decide +kernel
theorem dX6_add_11 : decode cX6_add 11 = .ok (.ifCond .eq 7, 3) := by decide +kernel
theorem dX6_add_14 : decode cX6_add 14 = .ok (.iconst 1, 1) := by decide +kernel
theorem dX6_add_15 : decode cX6_add 15 = .ok (.goto 4, 3) := by decide +kernel
theorem dX6_add_18 : decode cX6_add 18 = .ok (.iconst 0, 1) := by decide +kernel
theorem dX6_add_19 : decode cX6_add 19 = .ok (.istore_n 3, 1) := by decide +kernel
theorem dX6_add_20 : decode cX6_add 20 = .ok (.aload_n 0, 1) := by decide +kernel
theorem dX6_add_21 : decode cX6_add 21 = .ok (.iload_n 3, 1) := by decide +kernel
theorem dX6_add_22 : decode cX6_add 22 = .ok (.iload_n 3, 1) := by decide +kernel
theorem dX6_add_23 : decode cX6_add 23 = .ok (.ifCond .eq 26, 3) := by decide +kernel
theorem dX6_add_26 : decode cX6_add 26 = .ok (.aload_n 0, 1) := by decide +kernel
theorem dX6_add_27 : decode cX6_add 27 = .ok (.getfield 7, 3) := by decide +kernel
theorem dX6_add_30 : decode cX6_add 30 = .ok (.iload_n 1, 1) := by decide +kernel
theorem dX6_add_31 : decode cX6_add 31 = .ok (.iaload, 1) := by decide +kernel
theorem dX6_add_32 : decode cX6_add 32 = .ok (.aload_n 0, 1) := by decide +kernel
theorem dX6_add_33 : decode cX6_add 33 = .ok (.getfield 7, 3) := by decide +kernel
theorem dX6_add_36 : decode cX6_add 36 = .ok (.iload_n 2, 1) := by decide +kernel
theorem dX6_add_37 : decode cX6_add 37 = .ok (.iaload, 1) := by decide +kernel
theorem dX6_add_38 : decode cX6_add 38 = .ok (.iadd, 1) := by decide +kernel
theorem dX6_add_39 : decode cX6_add 39 = .ok (.sipush 6764, 3) := by decide +kernel
theorem dX6_add_42 : decode cX6_add 42 = .ok (.if_icmp .gt 7, 3) := by decide +kernel
theorem dX6_add_45 : decode cX6_add 45 = .ok (.iconst 1, 1) := by decide +kernel
theorem dX6_add_46 : decode cX6_add 46 = .ok (.goto 4, 3) := by decide +kernel
theorem dX6_add_49 : decode cX6_add 49 = .ok (.iconst 0, 1) := by decide +kernel
theorem dX6_add_50 : decode cX6_add 50 = .ok (.iconst 1, 1) := by decide +kernel
theorem dX6_add_51 : decode cX6_add 51 = .ok (.invokevirtual 68, 3) := by decide +kernel
theorem dX6_add_54 : decode cX6_add 54 = .ok (.ifCond .ne 5, 3) := by decide +kernel
theorem dX6_add_57 : decode cX6_add 57 = .ok (.iconst 0, 1) := by decide +kernel
theorem dX6_add_58 : decode cX6_add 58 = .ok (.ireturn, 1) := by decide +kernel
theorem dX6_add_59 : decode cX6_add 59 = .ok (.aload_n 0, 1) := by decide +kernel
theorem dX6_add_60 : decode cX6_add 60 = .ok (.invokevirtual 72, 3) := by decide +kernel
theorem dX6_add_63 : decode cX6_add 63 = .ok (.aload_n 0, 1) := by decide +kernel
theorem dX6_add_64 : decode cX6_add 64 = .ok (.aload_n 0, 1) := by decide +kernel
theorem dX6_add_65 : decode cX6_add 65 = .ok (.getfield 7, 3) := by decide +kernel
theorem dX6_add_68 : decode cX6_add 68 = .ok (.iload_n 1, 1) := by decide +kernel
theorem dX6_add_69 : decode cX6_add 69 = .ok (.iaload, 1) := by decide +kernel
theorem dX6_add_70 : decode cX6_add 70 = .ok (.invokestatic 40, 3) := by decide +kernel
theorem dX6_add_73 : decode cX6_add 73 = .ok (.aload_n 0, 1) := by decide +kernel
theorem dX6_add_74 : decode cX6_add 74 = .ok (.getfield 7, 3) := by decide +kernel
theorem dX6_add_77 : decode cX6_add 77 = .ok (.iload_n 2, 1) := by decide +kernel
theorem dX6_add_78 : decode cX6_add 78 = .ok (.iaload, 1) := by decide +kernel
theorem dX6_add_79 : decode cX6_add 79 = .ok (.invokestatic 40, 3) := by decide +kernel
theorem dX6_add_82 : decode cX6_add 82 = .ok (.invokevirtual 75, 3) := by decide +kernel
theorem dX6_add_85 : decode cX6_add 85 = .ok (.pop, 1) := by decide +kernel
theorem dX6_add_86 : decode cX6_add 86 = .ok (.aload_n 0, 1) := by decide +kernel
theorem dX6_add_87 : decode cX6_add 87 = .ok (.getfield 7, 3) := by decide +kernel
theorem dX6_add_90 : decode cX6_add 90 = .ok (.iload_n 1, 1) := by decide +kernel
theorem dX6_add_91 : decode cX6_add 91 = .ok (.dup2, 1) := by decide +kernel
theorem dX6_add_92 : decode cX6_add 92 = .ok (.iaload, 1) := by decide +kernel
theorem dX6_add_93 : decode cX6_add 93 = .ok (.aload_n 0, 1) := by decide +kernel
theorem dX6_add_94 : decode cX6_add 94 = .ok (.getfield 7, 3) := by decide +kernel
theorem dX6_add_97 : decode cX6_add 97 = .ok (.iload_n 2, 1) := by decide +kernel
theorem dX6_add_98 : decode cX6_add 98 = .ok (.iaload, 1) := by decide +kernel
theorem dX6_add_99 : decode cX6_add 99 = .ok (.iadd, 1) := by decide +kernel
theorem dX6_add_100 : decode cX6_add 100 = .ok (.iastore, 1) := by decide +kernel
theorem dX6_add_101 : decode cX6_add 101 = .ok (.aload_n 0, 1) := by decide +kernel
theorem dX6_add_102 : decode cX6_add 102 = .ok (.getfield 50, 3) := by decide +kernel
theorem dX6_add_105 : decode cX6_add 105 = .ok (.ireturn, 1) := by decide +kernel
theorem dX6_takeAway_0 : decode cX6_takeAway 0 = .ok (.iload_n 1, 1) := by decide +kernel
theorem dX6_takeAway_1 : decode cX6_takeAway 1 = .ok (.invokestatic 62, 3) := by decide +kernel
theorem dX6_takeAway_4 : decode cX6_takeAway 4 = .ok (.ifCond .eq 14, 3) := by decide +kernel
theorem dX6_takeAway_7 : decode cX6_takeAway 7 = .ok (.iload_n 2, 1) := by decide +kernel
theorem dX6_takeAway_8 : decode cX6_takeAway 8 = .ok (.invokestatic 62, 3) := by decide +kernel
theorem dX6_takeAway_11 : decode cX6_takeAway 11 = .ok (.ifCond .eq 7, 3) := by decide +kernel
theorem dX6_takeAway_14 : decode cX6_takeAway 14 = .ok (.iconst 1, 1) := by decide +kernel
theorem dX6_takeAway_15 : decode cX6_takeAway 15 = .ok (.goto 4, 3) := by decide +kernel
theorem dX6_takeAway_18 : decode cX6_takeAway 18 = .ok (.iconst 0, 1) := by decide +kernel
theorem dX6_takeAway_19 : decode cX6_takeAway 19 = .ok (.istore_n 3, 1) := by decide +kernel
theorem dX6_takeAway_20 : decode cX6_takeAway 20 = .ok (.aload_n 0, 1) := by decide +kernel
theorem dX6_takeAway_21 : decode cX6_takeAway 21 = .ok (.iload_n 3, 1) := by decide +kernel
theorem dX6_takeAway_22 : decode cX6_takeAway 22 = .ok (.iload_n 3, 1) := by decide +kernel
theorem dX6_takeAway_23 : decode cX6_takeAway 23 = .ok (.ifCond .eq 22, 3) := by decide +kernel
theorem dX6_takeAway_26 : decode cX6_takeAway 26 = .ok (.aload_n 0, 1) := by decide +kernel
theorem dX6_takeAway_27 : decode cX6_takeAway 27 = .ok (.getfield 7, 3) := by decide +kernel
theorem dX6_takeAway_30 : decode cX6_takeAway 30 = .ok (.iload_n 1, 1) := by decide +kernel
theorem dX6_takeAway_31 : decode cX6_takeAway 31 = .ok (.iaload, 1) := by decide +kernel
theorem dX6_takeAway_32 : decode cX6_takeAway 32 = .ok (.aload_n 0, 1) := by decide +kernel
theorem dX6_takeAway_33 : decode cX6_takeAway 33 = .ok (.getfield 7, 3) := by decide +kernel
theorem dX6_takeAway_36 : decode cX6_takeAway 36 = .ok (.iload_n 2, 1) := by decide +kernel
theorem dX6_takeAway_37 : decode cX6_takeAway 37 = .ok (.iaload, 1) := by decide +kernel
theorem dX6_takeAway_38 : decode cX6_takeAway 38 = .ok (.if_icmp .lt 7, 3) := by decide +kernel
theorem dX6_takeAway_41 : decode cX6_takeAway 41 = .ok (.iconst 1, 1) := by decide +kernel
theorem dX6_takeAway_42 : decode cX6_takeAway 42 = .ok (.goto 4, 3) := by decide +kernel
theorem dX6_takeAway_45 : decode cX6_takeAway 45 = .ok (.iconst 0, 1) := by decide +kernel
theorem dX6_takeAway_46 : decode cX6_takeAway 46 = .ok (.iconst 1, 1) := by decide +kernel
theorem dX6_takeAway_47 : decode cX6_takeAway 47 = .ok (.invokevirtual 68, 3) := by decide +kernel
theorem dX6_takeAway_50 : decode cX6_takeAway 50 = .ok (.ifCond .ne 5, 3) := by decide +kernel
theorem dX6_takeAway_53 : decode cX6_takeAway 53 = .ok (.iconst 0, 1) := by decide +kernel
theorem dX6_takeAway_54 : decode cX6_takeAway 54 = .ok (.ireturn, 1) := by decide +kernel
theorem dX6_takeAway_55 : decode cX6_takeAway 55 = .ok (.aload_n 0, 1) := by decide +kernel
theorem dX6_takeAway_56 : decode cX6_takeAway 56 = .ok (.invokevirtual 72, 3) := by decide +kernel
theorem dX6_takeAway_59 : decode cX6_takeAway 59 = .ok (.aload_n 0, 1) := by decide +kernel
theorem dX6_takeAway_60 : decode cX6_takeAway 60 = .ok (.getfield 7, 3) := by decide +kernel
theorem dX6_takeAway_63 : decode cX6_takeAway 63 = .ok (.iload_n 1, 1) := by decide +kernel
theorem dX6_takeAway_64 : decode cX6_takeAway 64 = .ok (.dup2, 1) := by decide +kernel
theorem dX6_takeAway_65 : decode cX6_takeAway 65 = .ok (.iaload, 1) := by decide +kernel
theorem dX6_takeAway_66 : decode cX6_takeAway 66 = .ok (.aload_n 0, 1) := by decide +kernel
theorem dX6_takeAway_67 : decode cX6_takeAway 67 = .ok (.getfield 7, 3) := by decide +kernel
theorem dX6_takeAway_70 : decode cX6_takeAway 70 = .ok (.iload_n 2, 1) := by decide +kernel
theorem dX6_takeAway_71 : decode cX6_takeAway 71 = .ok (.iaload, 1) := by decide +kernel
theorem dX6_takeAway_72 : decode cX6_takeAway 72 = .ok (.isub, 1) := by decide +kernel
theorem dX6_takeAway_73 : decode cX6_takeAway 73 = .ok (.iastore, 1) := by decide +kernel
theorem dX6_takeAway_74 : decode cX6_takeAway 74 = .ok (.aload_n 0, 1) := by decide +kernel
theorem dX6_takeAway_75 : decode cX6_takeAway 75 = .ok (.getfield 7, 3) := by decide +kernel
theorem dX6_takeAway_78 : decode cX6_takeAway 78 = .ok (.iload_n 1, 1) := by decide +kernel
theorem dX6_takeAway_79 : decode cX6_takeAway 79 = .ok (.iaload, 1) := by decide +kernel
theorem dX6_takeAway_80 : decode cX6_takeAway 80 = .ok (.ireturn, 1) := by decide +kernel
theorem dX6_raise_0 : decode cX6_raise 0 = .ok (.iload_n 1, 1) := by decide +kernel
theorem dX6_raise_1 : decode cX6_raise 1 = .ok (.invokestatic 62, 3) := by decide +kernel
theorem dX6_raise_4 : decode cX6_raise 4 = .ok (.istore_n 2, 1) := by decide +kernel
theorem dX6_raise_5 : decode cX6_raise 5 = .ok (.aload_n 0, 1) := by decide +kernel
theorem dX6_raise_6 : decode cX6_raise 6 = .ok (.iload_n 2, 1) := by decide +kernel
theorem dX6_raise_7 : decode cX6_raise 7 = .ok (.iload_n 2, 1) := by decide +kernel
theorem dX6_raise_8 : decode cX6_raise 8 = .ok (.ifCond .eq 15, 3) := by decide +kernel
theorem dX6_raise_11 : decode cX6_raise 11 = .ok (.aload_n 0, 1) := by decide +kernel
theorem dX6_raise_12 : decode cX6_raise 12 = .ok (.iload_n 1, 1) := by decide +kernel
theorem dX6_raise_13 : decode cX6_raise 13 = .ok (.invokevirtual 78, 3) := by decide +kernel
theorem dX6_raise_16 : decode cX6_raise 16 = .ok (.ifCond .eq 7, 3) := by decide +kernel
theorem dX6_raise_19 : decode cX6_raise 19 = .ok (.iconst 1, 1) := by decide +kernel
theorem dX6_raise_20 : decode cX6_raise 20 = .ok (.goto 4, 3) := by decide +kernel
theorem dX6_raise_23 : decode cX6_raise 23 = .ok (.iconst 0, 1) := by decide +kernel
theorem dX6_raise_24 : decode cX6_raise 24 = .ok (.iconst 1, 1) := by decide +kernel
theorem dX6_raise_25 : decode cX6_raise 25 = .ok (.invokevirtual 68, 3) := by decide +kernel
theorem dX6_raise_28 : decode cX6_raise 28 = .ok (.ifCond .ne 5, 3) := by decide +kernel
theorem dX6_raise_31 : decode cX6_raise 31 = .ok (.iconst 0, 1) := by decide +kernel
theorem dX6_raise_32 : decode cX6_raise 32 = .ok (.ireturn, 1) := by decide +kernel
theorem dX6_raise_33 : decode cX6_raise 33 = .ok (.aload_n 0, 1) := by decide +kernel
theorem dX6_raise_34 : decode cX6_raise 34 = .ok (.invokevirtual 72, 3) := by decide +kernel
theorem dX6_raise_37 : decode cX6_raise 37 = .ok (.aload_n 0, 1) := by decide +kernel
theorem dX6_raise_38 : decode cX6_raise 38 = .ok (.getfield 7, 3) := by decide +kernel
theorem dX6_raise_41 : decode cX6_raise 41 = .ok (.iload_n 1, 1) := by decide +kernel
theorem dX6_raise_42 : decode cX6_raise 42 = .ok (.aload_n 0, 1) := by decide +kernel
theorem dX6_raise_43 : decode cX6_raise 43 = .ok (.iload_n 1, 1) := by decide +kernel
theorem dX6_raise_44 : decode cX6_raise 44 = .ok (.invokevirtual 81, 3) := by decide +kernel
theorem dX6_raise_47 : decode cX6_raise 47 = .ok (.iastore, 1) := by decide +kernel
theorem dX6_raise_48 : decode cX6_raise 48 = .ok (.aload_n 0, 1) := by decide +kernel
theorem dX6_raise_49 : decode cX6_raise 49 = .ok (.getfield 7, 3) := by decide +kernel
theorem dX6_raise_52 : decode cX6_raise 52 = .ok (.iload_n 1, 1) := by decide +kernel
theorem dX6_raise_53 : decode cX6_raise 53 = .ok (.iaload, 1) := by decide +kernel
theorem dX6_raise_54 : decode cX6_raise 54 = .ok (.ireturn, 1) := by decide +kernel
theorem dX6_pay_0 : decode cX6_pay 0 = .ok (.iload_n 1, 1) := by decide +kernel
theorem dX6_pay_1 : decode cX6_pay 1 = .ok (.invokestatic 62, 3) := by decide +kernel
theorem dX6_pay_4 : decode cX6_pay 4 = .ok (.ifCond .eq 14, 3) := by decide +kernel
theorem dX6_pay_7 : decode cX6_pay 7 = .ok (.iload_n 2, 1) := by decide +kernel
theorem dX6_pay_8 : decode cX6_pay 8 = .ok (.invokestatic 62, 3) := by decide +kernel
theorem dX6_pay_11 : decode cX6_pay 11 = .ok (.ifCond .eq 7, 3) := by decide +kernel
theorem dX6_pay_14 : decode cX6_pay 14 = .ok (.iconst 1, 1) := by decide +kernel
theorem dX6_pay_15 : decode cX6_pay 15 = .ok (.goto 4, 3) := by decide +kernel
theorem dX6_pay_18 : decode cX6_pay 18 = .ok (.iconst 0, 1) := by decide +kernel
theorem dX6_pay_19 : decode cX6_pay 19 = .ok (.istore 4, 2) := by decide +kernel
theorem dX6_pay_21 : decode cX6_pay 21 = .ok (.iload_n 1, 1) := by decide +kernel
theorem dX6_pay_22 : decode cX6_pay 22 = .ok (.iload_n 2, 1) := by decide +kernel
theorem dX6_pay_23 : decode cX6_pay 23 = .ok (.if_icmp .eq 18, 3) := by decide +kernel
theorem dX6_pay_26 : decode cX6_pay 26 = .ok (.iload_n 3, 1) := by decide +kernel
theorem dX6_pay_27 : decode cX6_pay 27 = .ok (.iconst 1, 1) := by decide +kernel
theorem dX6_pay_28 : decode cX6_pay 28 = .ok (.sipush 6764, 3) := by decide +kernel
theorem dX6_pay_31 : decode cX6_pay 31 = .ok (.invokestatic 57, 3) := by decide +kernel
theorem dX6_pay_34 : decode cX6_pay 34 = .ok (.ifCond .eq 7, 3) := by decide +kernel
theorem dX6_pay_37 : decode cX6_pay 37 = .ok (.iconst 1, 1) := by decide +kernel
theorem dX6_pay_38 : decode cX6_pay 38 = .ok (.goto 4, 3) := by decide +kernel
theorem dX6_pay_41 : decode cX6_pay 41 = .ok (.iconst 0, 1) := by decide +kernel
theorem dX6_pay_42 : decode cX6_pay 42 = .ok (.istore 5, 2) := by decide +kernel
theorem dX6_pay_44 : decode cX6_pay 44 = .ok (.aload_n 0, 1) := by decide +kernel
theorem dX6_pay_45 : decode cX6_pay 45 = .ok (.iload 4, 2) := by decide +kernel
theorem dX6_pay_47 : decode cX6_pay 47 = .ok (.iload 5, 2) := by decide +kernel
theorem dX6_pay_49 : decode cX6_pay 49 = .ok (.iload 4, 2) := by decide +kernel
theorem dX6_pay_51 : decode cX6_pay 51 = .ok (.ifCond .eq 36, 3) := by decide +kernel
theorem dX6_pay_54 : decode cX6_pay 54 = .ok (.iload 5, 2) := by decide +kernel
theorem dX6_pay_56 : decode cX6_pay 56 = .ok (.ifCond .eq 31, 3) := by decide +kernel
theorem dX6_pay_59 : decode cX6_pay 59 = .ok (.aload_n 0, 1) := by decide +kernel
theorem dX6_pay_60 : decode cX6_pay 60 = .ok (.getfield 7, 3) := by decide +kernel
theorem dX6_pay_63 : decode cX6_pay 63 = .ok (.iload_n 1, 1) := by decide +kernel
theorem dX6_pay_64 : decode cX6_pay 64 = .ok (.iaload, 1) := by decide +kernel
theorem dX6_pay_65 : decode cX6_pay 65 = .ok (.iload_n 3, 1) := by decide +kernel
theorem dX6_pay_66 : decode cX6_pay 66 = .ok (.if_icmp .lt 21, 3) := by decide +kernel
theorem dX6_pay_69 : decode cX6_pay 69 = .ok (.aload_n 0, 1) := by decide +kernel
theorem dX6_pay_70 : decode cX6_pay 70 = .ok (.getfield 7, 3) := by decide +kernel
theorem dX6_pay_73 : decode cX6_pay 73 = .ok (.iload_n 2, 1) := by decide +kernel
theorem dX6_pay_74 : decode cX6_pay 74 = .ok (.iaload, 1) := by decide +kernel
theorem dX6_pay_75 : decode cX6_pay 75 = .ok (.iload_n 3, 1) := by decide +kernel
theorem dX6_pay_76 : decode cX6_pay 76 = .ok (.iadd, 1) := by decide +kernel
theorem dX6_pay_77 : decode cX6_pay 77 = .ok (.sipush 6764, 3) := by decide +kernel
theorem dX6_pay_80 : decode cX6_pay 80 = .ok (.if_icmp .gt 7, 3) := by decide +kernel
theorem dX6_pay_83 : decode cX6_pay 83 = .ok (.iconst 1, 1) := by decide +kernel
theorem dX6_pay_84 : decode cX6_pay 84 = .ok (.goto 4, 3) := by decide +kernel
theorem dX6_pay_87 : decode cX6_pay 87 = .ok (.iconst 0, 1) := by decide +kernel
theorem dX6_pay_88 : decode cX6_pay 88 = .ok (.invokevirtual 68, 3) := by decide +kernel
theorem dX6_pay_91 : decode cX6_pay 91 = .ok (.ifCond .ne 5, 3) := by decide +kernel
theorem dX6_pay_94 : decode cX6_pay 94 = .ok (.iconst 0, 1) := by decide +kernel
theorem dX6_pay_95 : decode cX6_pay 95 = .ok (.ireturn, 1) := by decide +kernel
theorem dX6_pay_96 : decode cX6_pay 96 = .ok (.aload_n 0, 1) := by decide +kernel
theorem dX6_pay_97 : decode cX6_pay 97 = .ok (.invokevirtual 72, 3) := by decide +kernel
theorem dX6_pay_100 : decode cX6_pay 100 = .ok (.aload_n 0, 1) := by decide +kernel
theorem dX6_pay_101 : decode cX6_pay 101 = .ok (.getfield 7, 3) := by decide +kernel
theorem dX6_pay_104 : decode cX6_pay 104 = .ok (.iload_n 1, 1) := by decide +kernel
theorem dX6_pay_105 : decode cX6_pay 105 = .ok (.dup2, 1) := by decide +kernel
theorem dX6_pay_106 : decode cX6_pay 106 = .ok (.iaload, 1) := by decide +kernel
theorem dX6_pay_107 : decode cX6_pay 107 = .ok (.iload_n 3, 1) := by decide +kernel
theorem dX6_pay_108 : decode cX6_pay 108 = .ok (.isub, 1) := by decide +kernel
theorem dX6_pay_109 : decode cX6_pay 109 = .ok (.iastore, 1) := by decide +kernel
theorem dX6_pay_110 : decode cX6_pay 110 = .ok (.aload_n 0, 1) := by decide +kernel
theorem dX6_pay_111 : decode cX6_pay 111 = .ok (.getfield 7, 3) := by decide +kernel
theorem dX6_pay_114 : decode cX6_pay 114 = .ok (.iload_n 2, 1) := by decide +kernel
theorem dX6_pay_115 : decode cX6_pay 115 = .ok (.dup2, 1) := by decide +kernel
theorem dX6_pay_116 : decode cX6_pay 116 = .ok (.iaload, 1) := by decide +kernel
theorem dX6_pay_117 : decode cX6_pay 117 = .ok (.iload_n 3, 1) := by decide +kernel
theorem dX6_pay_118 : decode cX6_pay 118 = .ok (.iadd, 1) := by decide +kernel
theorem dX6_pay_119 : decode cX6_pay 119 = .ok (.iastore, 1) := by decide +kernel
theorem dX6_pay_120 : decode cX6_pay 120 = .ok (.aload_n 0, 1) := by decide +kernel
theorem dX6_pay_121 : decode cX6_pay 121 = .ok (.getfield 7, 3) := by decide +kernel
theorem dX6_pay_124 : decode cX6_pay 124 = .ok (.iload_n 1, 1) := by decide +kernel
theorem dX6_pay_125 : decode cX6_pay 125 = .ok (.iaload, 1) := by decide +kernel
theorem dX6_pay_126 : decode cX6_pay 126 = .ok (.ireturn, 1) := by decide +kernel
theorem dX6_codeOf_0 : decode cX6_codeOf 0 = .ok (.iload_n 0, 1) := by decide +kernel
theorem dX6_codeOf_1 : decode cX6_codeOf 1 = .ok (.invokestatic 40, 3) := by decide +kernel
theorem dX6_codeOf_4 : decode cX6_codeOf 4 = .ok (.istore_n 1, 1) := by decide +kernel
theorem dX6_codeOf_5 : decode cX6_codeOf 5 = .ok (.iload_n 1, 1) := by decide +kernel
theorem dX6_codeOf_6 : decode cX6_codeOf 6 = .ok (.iload_n 1, 1) := by decide +kernel
theorem dX6_codeOf_7 : decode cX6_codeOf 7 = .ok (.invokestatic 47, 3) := by decide +kernel
theorem dX6_codeOf_10 : decode cX6_codeOf 10 = .ok (.iconst 1, 1) := by decide +kernel
theorem dX6_codeOf_11 : decode cX6_codeOf 11 = .ok (.isub, 1) := by decide +kernel
theorem dX6_codeOf_12 : decode cX6_codeOf 12 = .ok (.invokestatic 43, 3) := by decide +kernel
theorem dX6_codeOf_15 : decode cX6_codeOf 15 = .ok (.iconst 2, 1) := by decide +kernel
theorem dX6_codeOf_16 : decode cX6_codeOf 16 = .ok (.iadd, 1) := by decide +kernel
theorem dX6_codeOf_17 : decode cX6_codeOf 17 = .ok (.ireturn, 1) := by decide +kernel
theorem dX6_canSend_0 : decode cX6_canSend 0 = .ok (.aload_n 0, 1) := by decide +kernel
theorem dX6_canSend_1 : decode cX6_canSend 1 = .ok (.getfield 7, 3) := by decide +kernel
theorem dX6_canSend_4 : decode cX6_canSend 4 = .ok (.bipush 6, 2) := by decide +kernel
theorem dX6_canSend_6 : decode cX6_canSend 6 = .ok (.iaload, 1) := by decide +kernel
theorem dX6_canSend_7 : decode cX6_canSend 7 = .ok (.iload_n 1, 1) := by decide +kernel
theorem dX6_canSend_8 : decode cX6_canSend 8 = .ok (.invokestatic 84, 3) := by decide +kernel
theorem dX6_canSend_11 : decode cX6_canSend 11 = .ok (.iadd, 1) := by decide +kernel
theorem dX6_canSend_12 : decode cX6_canSend 12 = .ok (.bipush 64, 2) := by decide +kernel
theorem dX6_canSend_14 : decode cX6_canSend 14 = .ok (.if_icmp .gt 7, 3) := by decide +kernel
theorem dX6_canSend_17 : decode cX6_canSend 17 = .ok (.iconst 1, 1) := by decide +kernel
theorem dX6_canSend_18 : decode cX6_canSend 18 = .ok (.goto 4, 3) := by decide +kernel
theorem dX6_canSend_21 : decode cX6_canSend 21 = .ok (.iconst 0, 1) := by decide +kernel
theorem dX6_canSend_22 : decode cX6_canSend 22 = .ok (.ireturn, 1) := by decide +kernel
theorem dX6_sends_0 : decode cX6_sends 0 = .ok (.iload_n 1, 1) := by decide +kernel
theorem dX6_sends_1 : decode cX6_sends 1 = .ok (.invokestatic 40, 3) := by decide +kernel
theorem dX6_sends_4 : decode cX6_sends 4 = .ok (.istore_n 2, 1) := by decide +kernel
theorem dX6_sends_5 : decode cX6_sends 5 = .ok (.iload_n 1, 1) := by decide +kernel
theorem dX6_sends_6 : decode cX6_sends 6 = .ok (.invokestatic 84, 3) := by decide +kernel
theorem dX6_sends_9 : decode cX6_sends 9 = .ok (.istore_n 3, 1) := by decide +kernel
theorem dX6_sends_10 : decode cX6_sends 10 = .ok (.iconst 0, 1) := by decide +kernel
theorem dX6_sends_11 : decode cX6_sends 11 = .ok (.istore 4, 2) := by decide +kernel
theorem dX6_sends_13 : decode cX6_sends 13 = .ok (.iload 4, 2) := by decide +kernel
theorem dX6_sends_15 : decode cX6_sends 15 = .ok (.iload_n 3, 1) := by decide +kernel
theorem dX6_sends_16 : decode cX6_sends 16 = .ok (.if_icmp .ge 53, 3) := by decide +kernel
theorem dX6_sends_19 : decode cX6_sends 19 = .ok (.aload_n 0, 1) := by decide +kernel
theorem dX6_sends_20 : decode cX6_sends 20 = .ok (.getfield 7, 3) := by decide +kernel
theorem dX6_sends_23 : decode cX6_sends 23 = .ok (.bipush 7, 2) := by decide +kernel
theorem dX6_sends_25 : decode cX6_sends 25 = .ok (.aload_n 0, 1) := by decide +kernel
theorem dX6_sends_26 : decode cX6_sends 26 = .ok (.getfield 7, 3) := by decide +kernel
theorem dX6_sends_29 : decode cX6_sends 29 = .ok (.bipush 6, 2) := by decide +kernel
theorem dX6_sends_31 : decode cX6_sends 31 = .ok (.iaload, 1) := by decide +kernel
theorem dX6_sends_32 : decode cX6_sends 32 = .ok (.iadd, 1) := by decide +kernel
theorem dX6_sends_33 : decode cX6_sends 33 = .ok (.iload 4, 2) := by decide +kernel
theorem dX6_sends_35 : decode cX6_sends 35 = .ok (.iload_n 3, 1) := by decide +kernel
theorem dX6_sends_36 : decode cX6_sends 36 = .ok (.iconst 1, 1) := by decide +kernel
theorem dX6_sends_37 : decode cX6_sends 37 = .ok (.isub, 1) := by decide +kernel
theorem dX6_sends_38 : decode cX6_sends 38 = .ok (.if_icmp .ne 7, 3) := by decide +kernel
theorem dX6_sends_41 : decode cX6_sends 41 = .ok (.iconst 1, 1) := by decide +kernel
theorem dX6_sends_42 : decode cX6_sends 42 = .ok (.goto 9, 3) := by decide +kernel
theorem dX6_sends_45 : decode cX6_sends 45 = .ok (.iload_n 2, 1) := by decide +kernel
theorem dX6_sends_46 : decode cX6_sends 46 = .ok (.iload 4, 2) := by decide +kernel
theorem dX6_sends_48 : decode cX6_sends 48 = .ok (.ishr, 1) := by decide +kernel
theorem dX6_sends_49 : decode cX6_sends 49 = .ok (.iconst 1, 1) := by decide +kernel
theorem dX6_sends_50 : decode cX6_sends 50 = .ok (.iand, 1) := by decide +kernel
theorem dX6_sends_51 : decode cX6_sends 51 = .ok (.iastore, 1) := by decide +kernel
theorem dX6_sends_52 : decode cX6_sends 52 = .ok (.aload_n 0, 1) := by decide +kernel
theorem dX6_sends_53 : decode cX6_sends 53 = .ok (.getfield 7, 3) := by decide +kernel
theorem dX6_sends_56 : decode cX6_sends 56 = .ok (.bipush 6, 2) := by decide +kernel
theorem dX6_sends_58 : decode cX6_sends 58 = .ok (.dup2, 1) := by decide +kernel
theorem dX6_sends_59 : decode cX6_sends 59 = .ok (.iaload, 1) := by decide +kernel
theorem dX6_sends_60 : decode cX6_sends 60 = .ok (.iconst 1, 1) := by decide +kernel
theorem dX6_sends_61 : decode cX6_sends 61 = .ok (.iadd, 1) := by decide +kernel
theorem dX6_sends_62 : decode cX6_sends 62 = .ok (.iastore, 1) := by decide +kernel
theorem dX6_sends_63 : decode cX6_sends 63 = .ok (.iinc 4 1, 3) := by decide +kernel
theorem dX6_sends_66 : decode cX6_sends 66 = .ok (.goto (-53), 3) := by decide +kernel
theorem dX6_sends_69 : decode cX6_sends 69 = .ok (.aload_n 0, 1) := by decide +kernel
theorem dX6_sends_70 : decode cX6_sends 70 = .ok (.getfield 7, 3) := by decide +kernel
theorem dX6_sends_73 : decode cX6_sends 73 = .ok (.bipush 6, 2) := by decide +kernel
theorem dX6_sends_75 : decode cX6_sends 75 = .ok (.iaload, 1) := by decide +kernel
theorem dX6_sends_76 : decode cX6_sends 76 = .ok (.ireturn, 1) := by decide +kernel
theorem dX6_send_0 : decode cX6_send 0 = .ok (.iload_n 1, 1) := by decide +kernel
theorem dX6_send_1 : decode cX6_send 1 = .ok (.iconst 1, 1) := by decide +kernel
theorem dX6_send_2 : decode cX6_send 2 = .ok (.sipush 6764, 3) := by decide +kernel
theorem dX6_send_5 : decode cX6_send 5 = .ok (.invokestatic 57, 3) := by decide +kernel
theorem dX6_send_8 : decode cX6_send 8 = .ok (.istore_n 2, 1) := by decide +kernel
theorem dX6_send_9 : decode cX6_send 9 = .ok (.aload_n 0, 1) := by decide +kernel
theorem dX6_send_10 : decode cX6_send 10 = .ok (.iload_n 2, 1) := by decide +kernel
theorem dX6_send_11 : decode cX6_send 11 = .ok (.iload_n 2, 1) := by decide +kernel
theorem dX6_send_12 : decode cX6_send 12 = .ok (.ifCond .eq 15, 3) := by decide +kernel
theorem dX6_send_15 : decode cX6_send 15 = .ok (.aload_n 0, 1) := by decide +kernel
theorem dX6_send_16 : decode cX6_send 16 = .ok (.iload_n 1, 1) := by decide +kernel
theorem dX6_send_17 : decode cX6_send 17 = .ok (.invokevirtual 87, 3) := by decide +kernel
theorem dX6_send_20 : decode cX6_send 20 = .ok (.ifCond .eq 7, 3) := by decide +kernel
theorem dX6_send_23 : decode cX6_send 23 = .ok (.iconst 1, 1) := by decide +kernel
theorem dX6_send_24 : decode cX6_send 24 = .ok (.goto 4, 3) := by decide +kernel
theorem dX6_send_27 : decode cX6_send 27 = .ok (.iconst 0, 1) := by decide +kernel
theorem dX6_send_28 : decode cX6_send 28 = .ok (.iconst 1, 1) := by decide +kernel
theorem dX6_send_29 : decode cX6_send 29 = .ok (.invokevirtual 68, 3) := by decide +kernel
theorem dX6_send_32 : decode cX6_send 32 = .ok (.ifCond .ne 5, 3) := by decide +kernel
theorem dX6_send_35 : decode cX6_send 35 = .ok (.iconst 0, 1) := by decide +kernel
theorem dX6_send_36 : decode cX6_send 36 = .ok (.ireturn, 1) := by decide +kernel
theorem dX6_send_37 : decode cX6_send 37 = .ok (.aload_n 0, 1) := by decide +kernel
theorem dX6_send_38 : decode cX6_send 38 = .ok (.invokevirtual 72, 3) := by decide +kernel
theorem dX6_send_41 : decode cX6_send 41 = .ok (.aload_n 0, 1) := by decide +kernel
theorem dX6_send_42 : decode cX6_send 42 = .ok (.iload_n 1, 1) := by decide +kernel
theorem dX6_send_43 : decode cX6_send 43 = .ok (.invokevirtual 90, 3) := by decide +kernel
theorem dX6_send_46 : decode cX6_send 46 = .ok (.ireturn, 1) := by decide +kernel
theorem dX6_isDigit_0 : decode cX6_isDigit 0 = .ok (.iload_n 1, 1) := by decide +kernel
theorem dX6_isDigit_1 : decode cX6_isDigit 1 = .ok (.iconst 0, 1) := by decide +kernel
theorem dX6_isDigit_2 : decode cX6_isDigit 2 = .ok (.aload_n 0, 1) := by decide +kernel
theorem dX6_isDigit_3 : decode cX6_isDigit 3 = .ok (.getfield 7, 3) := by decide +kernel
theorem dX6_isDigit_6 : decode cX6_isDigit 6 = .ok (.bipush 6, 2) := by decide +kernel
theorem dX6_isDigit_8 : decode cX6_isDigit 8 = .ok (.iaload, 1) := by decide +kernel
theorem dX6_isDigit_9 : decode cX6_isDigit 9 = .ok (.iconst 1, 1) := by decide +kernel
theorem dX6_isDigit_10 : decode cX6_isDigit 10 = .ok (.isub, 1) := by decide +kernel
theorem dX6_isDigit_11 : decode cX6_isDigit 11 = .ok (.invokestatic 57, 3) := by decide +kernel
theorem dX6_isDigit_14 : decode cX6_isDigit 14 = .ok (.ireturn, 1) := by decide +kernel
theorem dX6_turns_0 : decode cX6_turns 0 = .ok (.aload_n 0, 1) := by decide +kernel
theorem dX6_turns_1 : decode cX6_turns 1 = .ok (.getfield 7, 3) := by decide +kernel
theorem dX6_turns_4 : decode cX6_turns 4 = .ok (.bipush 7, 2) := by decide +kernel
theorem dX6_turns_6 : decode cX6_turns 6 = .ok (.iload_n 1, 1) := by decide +kernel
theorem dX6_turns_7 : decode cX6_turns 7 = .ok (.iadd, 1) := by decide +kernel
theorem dX6_turns_8 : decode cX6_turns 8 = .ok (.iconst 1, 1) := by decide +kernel
theorem dX6_turns_9 : decode cX6_turns 9 = .ok (.aload_n 0, 1) := by decide +kernel
theorem dX6_turns_10 : decode cX6_turns 10 = .ok (.getfield 7, 3) := by decide +kernel
theorem dX6_turns_13 : decode cX6_turns 13 = .ok (.bipush 7, 2) := by decide +kernel
theorem dX6_turns_15 : decode cX6_turns 15 = .ok (.iload_n 1, 1) := by decide +kernel
theorem dX6_turns_16 : decode cX6_turns 16 = .ok (.iadd, 1) := by decide +kernel
theorem dX6_turns_17 : decode cX6_turns 17 = .ok (.iaload, 1) := by decide +kernel
theorem dX6_turns_18 : decode cX6_turns 18 = .ok (.isub, 1) := by decide +kernel
theorem dX6_turns_19 : decode cX6_turns 19 = .ok (.iastore, 1) := by decide +kernel
theorem dX6_turns_20 : decode cX6_turns 20 = .ok (.aload_n 0, 1) := by decide +kernel
theorem dX6_turns_21 : decode cX6_turns 21 = .ok (.getfield 7, 3) := by decide +kernel
theorem dX6_turns_24 : decode cX6_turns 24 = .ok (.bipush 7, 2) := by decide +kernel
theorem dX6_turns_26 : decode cX6_turns 26 = .ok (.iload_n 1, 1) := by decide +kernel
theorem dX6_turns_27 : decode cX6_turns 27 = .ok (.iadd, 1) := by decide +kernel
theorem dX6_turns_28 : decode cX6_turns 28 = .ok (.iaload, 1) := by decide +kernel
theorem dX6_turns_29 : decode cX6_turns 29 = .ok (.ireturn, 1) := by decide +kernel
theorem dX6_turn_0 : decode cX6_turn 0 = .ok (.aload_n 0, 1) := by decide +kernel
theorem dX6_turn_1 : decode cX6_turn 1 = .ok (.aload_n 0, 1) := by decide +kernel
theorem dX6_turn_2 : decode cX6_turn 2 = .ok (.iload_n 1, 1) := by decide +kernel
theorem dX6_turn_3 : decode cX6_turn 3 = .ok (.invokevirtual 93, 3) := by decide +kernel
theorem dX6_turn_6 : decode cX6_turn 6 = .ok (.iconst 1, 1) := by decide +kernel
theorem dX6_turn_7 : decode cX6_turn 7 = .ok (.iconst 1, 1) := by decide +kernel
theorem dX6_turn_8 : decode cX6_turn 8 = .ok (.invokevirtual 68, 3) := by decide +kernel
theorem dX6_turn_11 : decode cX6_turn 11 = .ok (.ifCond .ne 5, 3) := by decide +kernel
theorem dX6_turn_14 : decode cX6_turn 14 = .ok (.iconst 0, 1) := by decide +kernel
theorem dX6_turn_15 : decode cX6_turn 15 = .ok (.ireturn, 1) := by decide +kernel
theorem dX6_turn_16 : decode cX6_turn 16 = .ok (.aload_n 0, 1) := by decide +kernel
theorem dX6_turn_17 : decode cX6_turn 17 = .ok (.invokevirtual 72, 3) := by decide +kernel
theorem dX6_turn_20 : decode cX6_turn 20 = .ok (.aload_n 0, 1) := by decide +kernel
theorem dX6_turn_21 : decode cX6_turn 21 = .ok (.iload_n 1, 1) := by decide +kernel
theorem dX6_turn_22 : decode cX6_turn 22 = .ok (.invokevirtual 96, 3) := by decide +kernel
theorem dX6_turn_25 : decode cX6_turn 25 = .ok (.ireturn, 1) := by decide +kernel
theorem dX6_cut_0 : decode cX6_cut 0 = .ok (.iload_n 1, 1) := by decide +kernel
theorem dX6_cut_1 : decode cX6_cut 1 = .ok (.iconst 1, 1) := by decide +kernel
theorem dX6_cut_2 : decode cX6_cut 2 = .ok (.bipush 64, 2) := by decide +kernel
theorem dX6_cut_4 : decode cX6_cut 4 = .ok (.invokestatic 57, 3) := by decide +kernel
theorem dX6_cut_7 : decode cX6_cut 7 = .ok (.istore_n 2, 1) := by decide +kernel
theorem dX6_cut_8 : decode cX6_cut 8 = .ok (.aload_n 0, 1) := by decide +kernel
theorem dX6_cut_9 : decode cX6_cut 9 = .ok (.iload_n 2, 1) := by decide +kernel
theorem dX6_cut_10 : decode cX6_cut 10 = .ok (.iload_n 2, 1) := by decide +kernel
theorem dX6_cut_11 : decode cX6_cut 11 = .ok (.ifCond .eq 18, 3) := by decide +kernel
theorem dX6_cut_14 : decode cX6_cut 14 = .ok (.iload_n 1, 1) := by decide +kernel
theorem dX6_cut_15 : decode cX6_cut 15 = .ok (.aload_n 0, 1) := by decide +kernel
theorem dX6_cut_16 : decode cX6_cut 16 = .ok (.getfield 7, 3) := by decide +kernel
theorem dX6_cut_19 : decode cX6_cut 19 = .ok (.bipush 6, 2) := by decide +kernel
theorem dX6_cut_21 : decode cX6_cut 21 = .ok (.iaload, 1) := by decide +kernel
theorem dX6_cut_22 : decode cX6_cut 22 = .ok (.if_icmp .gt 7, 3) := by decide +kernel
theorem dX6_cut_25 : decode cX6_cut 25 = .ok (.iconst 1, 1) := by decide +kernel
theorem dX6_cut_26 : decode cX6_cut 26 = .ok (.goto 4, 3) := by decide +kernel
theorem dX6_cut_29 : decode cX6_cut 29 = .ok (.iconst 0, 1) := by decide +kernel
theorem dX6_cut_30 : decode cX6_cut 30 = .ok (.iconst 1, 1) := by decide +kernel
theorem dX6_cut_31 : decode cX6_cut 31 = .ok (.invokevirtual 68, 3) := by decide +kernel
theorem dX6_cut_34 : decode cX6_cut 34 = .ok (.ifCond .ne 5, 3) := by decide +kernel
theorem dX6_cut_37 : decode cX6_cut 37 = .ok (.iconst 0, 1) := by decide +kernel
theorem dX6_cut_38 : decode cX6_cut 38 = .ok (.ireturn, 1) := by decide +kernel
theorem dX6_cut_39 : decode cX6_cut 39 = .ok (.aload_n 0, 1) := by decide +kernel
theorem dX6_cut_40 : decode cX6_cut 40 = .ok (.invokevirtual 72, 3) := by decide +kernel
theorem dX6_cut_43 : decode cX6_cut 43 = .ok (.aload_n 0, 1) := by decide +kernel
theorem dX6_cut_44 : decode cX6_cut 44 = .ok (.getfield 7, 3) := by decide +kernel
theorem dX6_cut_47 : decode cX6_cut 47 = .ok (.bipush 6, 2) := by decide +kernel
theorem dX6_cut_49 : decode cX6_cut 49 = .ok (.dup2, 1) := by decide +kernel
theorem dX6_cut_50 : decode cX6_cut 50 = .ok (.iaload, 1) := by decide +kernel
theorem dX6_cut_51 : decode cX6_cut 51 = .ok (.iload_n 1, 1) := by decide +kernel
theorem dX6_cut_52 : decode cX6_cut 52 = .ok (.isub, 1) := by decide +kernel
theorem dX6_cut_53 : decode cX6_cut 53 = .ok (.iastore, 1) := by decide +kernel
theorem dX6_cut_54 : decode cX6_cut 54 = .ok (.iconst 0, 1) := by decide +kernel
theorem dX6_cut_55 : decode cX6_cut 55 = .ok (.istore_n 3, 1) := by decide +kernel
theorem dX6_cut_56 : decode cX6_cut 56 = .ok (.iload_n 3, 1) := by decide +kernel
theorem dX6_cut_57 : decode cX6_cut 57 = .ok (.aload_n 0, 1) := by decide +kernel
theorem dX6_cut_58 : decode cX6_cut 58 = .ok (.getfield 7, 3) := by decide +kernel
theorem dX6_cut_61 : decode cX6_cut 61 = .ok (.bipush 6, 2) := by decide +kernel
theorem dX6_cut_63 : decode cX6_cut 63 = .ok (.iaload, 1) := by decide +kernel
theorem dX6_cut_64 : decode cX6_cut 64 = .ok (.if_icmp .ge 29, 3) := by decide +kernel
theorem dX6_cut_67 : decode cX6_cut 67 = .ok (.aload_n 0, 1) := by decide +kernel
theorem dX6_cut_68 : decode cX6_cut 68 = .ok (.getfield 7, 3) := by decide +kernel
theorem dX6_cut_71 : decode cX6_cut 71 = .ok (.bipush 7, 2) := by decide +kernel
theorem dX6_cut_73 : decode cX6_cut 73 = .ok (.iload_n 3, 1) := by decide +kernel
theorem dX6_cut_74 : decode cX6_cut 74 = .ok (.iadd, 1) := by decide +kernel
theorem dX6_cut_75 : decode cX6_cut 75 = .ok (.aload_n 0, 1) := by decide +kernel
theorem dX6_cut_76 : decode cX6_cut 76 = .ok (.getfield 7, 3) := by decide +kernel
theorem dX6_cut_79 : decode cX6_cut 79 = .ok (.bipush 7, 2) := by decide +kernel
theorem dX6_cut_81 : decode cX6_cut 81 = .ok (.iload_n 3, 1) := by decide +kernel
theorem dX6_cut_82 : decode cX6_cut 82 = .ok (.iadd, 1) := by decide +kernel
theorem dX6_cut_83 : decode cX6_cut 83 = .ok (.iload_n 1, 1) := by decide +kernel
theorem dX6_cut_84 : decode cX6_cut 84 = .ok (.iadd, 1) := by decide +kernel
theorem dX6_cut_85 : decode cX6_cut 85 = .ok (.iaload, 1) := by decide +kernel
theorem dX6_cut_86 : decode cX6_cut 86 = .ok (.iastore, 1) := by decide +kernel
theorem dX6_cut_87 : decode cX6_cut 87 = .ok (.iinc 3 1, 3) := by decide +kernel
theorem dX6_cut_90 : decode cX6_cut 90 = .ok (.goto (-34), 3) := by decide +kernel
theorem dX6_cut_93 : decode cX6_cut 93 = .ok (.aload_n 0, 1) := by decide +kernel
theorem dX6_cut_94 : decode cX6_cut 94 = .ok (.getfield 7, 3) := by decide +kernel
theorem dX6_cut_97 : decode cX6_cut 97 = .ok (.bipush 6, 2) := by decide +kernel
theorem dX6_cut_99 : decode cX6_cut 99 = .ok (.iaload, 1) := by decide +kernel
theorem dX6_cut_100 : decode cX6_cut 100 = .ok (.ireturn, 1) := by decide +kernel
theorem dX6_reads_0 : decode cX6_reads 0 = .ok (.iconst 0, 1) := by decide +kernel
theorem dX6_reads_1 : decode cX6_reads 1 = .ok (.istore_n 1, 1) := by decide +kernel
theorem dX6_reads_2 : decode cX6_reads 2 = .ok (.iconst 0, 1) := by decide +kernel
theorem dX6_reads_3 : decode cX6_reads 3 = .ok (.istore_n 2, 1) := by decide +kernel
theorem dX6_reads_4 : decode cX6_reads 4 = .ok (.aload_n 0, 1) := by decide +kernel
theorem dX6_reads_5 : decode cX6_reads 5 = .ok (.iconst 0, 1) := by decide +kernel
theorem dX6_reads_6 : decode cX6_reads 6 = .ok (.putfield 99, 3) := by decide +kernel
theorem dX6_reads_9 : decode cX6_reads 9 = .ok (.aload_n 0, 1) := by decide +kernel
theorem dX6_reads_10 : decode cX6_reads 10 = .ok (.iconst 0, 1) := by decide +kernel
theorem dX6_reads_11 : decode cX6_reads 11 = .ok (.putfield 102, 3) := by decide +kernel
theorem dX6_reads_14 : decode cX6_reads 14 = .ok (.iconst 0, 1) := by decide +kernel
theorem dX6_reads_15 : decode cX6_reads 15 = .ok (.istore_n 3, 1) := by decide +kernel
theorem dX6_reads_16 : decode cX6_reads 16 = .ok (.iload_n 3, 1) := by decide +kernel
theorem dX6_reads_17 : decode cX6_reads 17 = .ok (.aload_n 0, 1) := by decide +kernel
theorem dX6_reads_18 : decode cX6_reads 18 = .ok (.getfield 7, 3) := by decide +kernel
theorem dX6_reads_21 : decode cX6_reads 21 = .ok (.bipush 6, 2) := by decide +kernel
theorem dX6_reads_23 : decode cX6_reads 23 = .ok (.iaload, 1) := by decide +kernel
theorem dX6_reads_24 : decode cX6_reads 24 = .ok (.if_icmp .ge 181, 3) := by decide +kernel
theorem dX6_reads_27 : decode cX6_reads 27 = .ok (.aload_n 0, 1) := by decide +kernel
theorem dX6_reads_28 : decode cX6_reads 28 = .ok (.getfield 7, 3) := by decide +kernel
theorem dX6_reads_31 : decode cX6_reads 31 = .ok (.bipush 7, 2) := by decide +kernel
theorem dX6_reads_33 : decode cX6_reads 33 = .ok (.iload_n 3, 1) := by decide +kernel
theorem dX6_reads_34 : decode cX6_reads 34 = .ok (.iadd, 1) := by decide +kernel
theorem dX6_reads_35 : decode cX6_reads 35 = .ok (.iaload, 1) := by decide +kernel
theorem dX6_reads_36 : decode cX6_reads 36 = .ok (.iconst 1, 1) := by decide +kernel
theorem dX6_reads_37 : decode cX6_reads 37 = .ok (.if_icmp .ne 7, 3) := by decide +kernel
theorem dX6_reads_40 : decode cX6_reads 40 = .ok (.iconst 1, 1) := by decide +kernel
theorem dX6_reads_41 : decode cX6_reads 41 = .ok (.goto 4, 3) := by decide +kernel
theorem dX6_reads_44 : decode cX6_reads 44 = .ok (.iconst 0, 1) := by decide +kernel
theorem dX6_reads_45 : decode cX6_reads 45 = .ok (.istore 4, 2) := by decide +kernel
theorem dX6_reads_47 : decode cX6_reads 47 = .ok (.iload 4, 2) := by decide +kernel
theorem dX6_reads_49 : decode cX6_reads 49 = .ok (.ifCond .eq 29, 3) := by decide +kernel
theorem dX6_reads_52 : decode cX6_reads 52 = .ok (.aload_n 0, 1) := by decide +kernel
theorem dX6_reads_53 : decode cX6_reads 53 = .ok (.getfield 102, 3) := by decide +kernel
theorem dX6_reads_56 : decode cX6_reads 56 = .ok (.ifCond .le 22, 3) := by decide +kernel
theorem dX6_reads_59 : decode cX6_reads 59 = .ok (.aload_n 0, 1) := by decide +kernel
theorem dX6_reads_60 : decode cX6_reads 60 = .ok (.getfield 7, 3) := by decide +kernel
theorem dX6_reads_63 : decode cX6_reads 63 = .ok (.bipush 7, 2) := by decide +kernel
theorem dX6_reads_65 : decode cX6_reads 65 = .ok (.iload_n 3, 1) := by decide +kernel
theorem dX6_reads_66 : decode cX6_reads 66 = .ok (.iadd, 1) := by decide +kernel
theorem dX6_reads_67 : decode cX6_reads 67 = .ok (.iconst 1, 1) := by decide +kernel
theorem dX6_reads_68 : decode cX6_reads 68 = .ok (.isub, 1) := by decide +kernel
theorem dX6_reads_69 : decode cX6_reads 69 = .ok (.iaload, 1) := by decide +kernel
theorem dX6_reads_70 : decode cX6_reads 70 = .ok (.iconst 1, 1) := by decide +kernel
theorem dX6_reads_71 : decode cX6_reads 71 = .ok (.if_icmp .ne 7, 3) := by decide +kernel
theorem dX6_reads_74 : decode cX6_reads 74 = .ok (.iconst 1, 1) := by decide +kernel
theorem dX6_reads_75 : decode cX6_reads 75 = .ok (.goto 4, 3) := by decide +kernel
theorem dX6_reads_78 : decode cX6_reads 78 = .ok (.iconst 0, 1) := by decide +kernel
theorem dX6_reads_79 : decode cX6_reads 79 = .ok (.istore 5, 2) := by decide +kernel
theorem dX6_reads_81 : decode cX6_reads 81 = .ok (.aload_n 0, 1) := by decide +kernel
theorem dX6_reads_82 : decode cX6_reads 82 = .ok (.getfield 102, 3) := by decide +kernel
theorem dX6_reads_85 : decode cX6_reads 85 = .ok (.bipush 18, 2) := by decide +kernel
theorem dX6_reads_87 : decode cX6_reads 87 = .ok (.if_icmp .gt 7, 3) := by decide +kernel
theorem dX6_reads_90 : decode cX6_reads 90 = .ok (.iconst 1, 1) := by decide +kernel
theorem dX6_reads_91 : decode cX6_reads 91 = .ok (.goto 4, 3) := by decide +kernel
theorem dX6_reads_94 : decode cX6_reads 94 = .ok (.iconst 0, 1) := by decide +kernel
theorem dX6_reads_95 : decode cX6_reads 95 = .ok (.istore 6, 2) := by decide +kernel
theorem dX6_reads_97 : decode cX6_reads 97 = .ok (.iload 5, 2) := by decide +kernel
theorem dX6_reads_99 : decode cX6_reads 99 = .ok (.ifCond .eq 21, 3) := by decide +kernel
theorem dX6_reads_102 : decode cX6_reads 102 = .ok (.iload 6, 2) := by decide +kernel
theorem dX6_reads_104 : decode cX6_reads 104 = .ok (.ifCond .eq 16, 3) := by decide +kernel
theorem dX6_reads_107 : decode cX6_reads 107 = .ok (.aload_n 0, 1) := by decide +kernel
theorem dX6_reads_108 : decode cX6_reads 108 = .ok (.getfield 19, 3) := by decide +kernel
theorem dX6_reads_111 : decode cX6_reads 111 = .ok (.iload_n 1, 1) := by decide +kernel
theorem dX6_reads_112 : decode cX6_reads 112 = .ok (.iload_n 2, 1) := by decide +kernel
theorem dX6_reads_113 : decode cX6_reads 113 = .ok (.invokestatic 37, 3) := by decide +kernel
theorem dX6_reads_116 : decode cX6_reads 116 = .ok (.iastore, 1) := by decide +kernel
theorem dX6_reads_117 : decode cX6_reads 117 = .ok (.iinc 1 1, 3) := by decide +kernel
theorem dX6_reads_120 : decode cX6_reads 120 = .ok (.aload_n 0, 1) := by decide +kernel
theorem dX6_reads_121 : decode cX6_reads 121 = .ok (.dup, 1) := by decide +kernel
theorem dX6_reads_122 : decode cX6_reads 122 = .ok (.getfield 99, 3) := by decide +kernel
theorem dX6_reads_125 : decode cX6_reads 125 = .ok (.iload 5, 2) := by decide +kernel
theorem dX6_reads_127 : decode cX6_reads 127 = .ok (.ifCond .eq 12, 3) := by decide +kernel
theorem dX6_reads_130 : decode cX6_reads 130 = .ok (.iload 6, 2) := by decide +kernel
theorem dX6_reads_132 : decode cX6_reads 132 = .ok (.ifCond .ne 7, 3) := by decide +kernel
theorem dX6_reads_135 : decode cX6_reads 135 = .ok (.iconst 1, 1) := by decide +kernel
theorem dX6_reads_136 : decode cX6_reads 136 = .ok (.goto 4, 3) := by decide +kernel
theorem dX6_reads_139 : decode cX6_reads 139 = .ok (.iconst 0, 1) := by decide +kernel
theorem dX6_reads_140 : decode cX6_reads 140 = .ok (.iadd, 1) := by decide +kernel
theorem dX6_reads_141 : decode cX6_reads 141 = .ok (.putfield 99, 3) := by decide +kernel
theorem dX6_reads_144 : decode cX6_reads 144 = .ok (.iload 5, 2) := by decide +kernel
theorem dX6_reads_146 : decode cX6_reads 146 = .ok (.ifCond .eq 7, 3) := by decide +kernel
theorem dX6_reads_149 : decode cX6_reads 149 = .ok (.iconst 0, 1) := by decide +kernel
theorem dX6_reads_150 : decode cX6_reads 150 = .ok (.goto 29, 3) := by decide +kernel
theorem dX6_reads_153 : decode cX6_reads 153 = .ok (.iload 4, 2) := by decide +kernel
theorem dX6_reads_155 : decode cX6_reads 155 = .ok (.ifCond .eq 23, 3) := by decide +kernel
theorem dX6_reads_158 : decode cX6_reads 158 = .ok (.aload_n 0, 1) := by decide +kernel
theorem dX6_reads_159 : decode cX6_reads 159 = .ok (.getfield 102, 3) := by decide +kernel
theorem dX6_reads_162 : decode cX6_reads 162 = .ok (.bipush 18, 2) := by decide +kernel
theorem dX6_reads_164 : decode cX6_reads 164 = .ok (.if_icmp .ge 14, 3) := by decide +kernel
theorem dX6_reads_167 : decode cX6_reads 167 = .ok (.iload_n 2, 1) := by decide +kernel
theorem dX6_reads_168 : decode cX6_reads 168 = .ok (.iconst 1, 1) := by decide +kernel
theorem dX6_reads_169 : decode cX6_reads 169 = .ok (.aload_n 0, 1) := by decide +kernel
theorem dX6_reads_170 : decode cX6_reads 170 = .ok (.getfield 102, 3) := by decide +kernel
theorem dX6_reads_173 : decode cX6_reads 173 = .ok (.ishl, 1) := by decide +kernel
theorem dX6_reads_174 : decode cX6_reads 174 = .ok (.ior, 1) := by decide +kernel
theorem dX6_reads_175 : decode cX6_reads 175 = .ok (.goto 4, 3) := by decide +kernel
theorem dX6_reads_178 : decode cX6_reads 178 = .ok (.iload_n 2, 1) := by decide +kernel
theorem dX6_reads_179 : decode cX6_reads 179 = .ok (.istore_n 2, 1) := by decide +kernel
theorem dX6_reads_180 : decode cX6_reads 180 = .ok (.aload_n 0, 1) := by decide +kernel
theorem dX6_reads_181 : decode cX6_reads 181 = .ok (.iload 5, 2) := by decide +kernel
theorem dX6_reads_183 : decode cX6_reads 183 = .ok (.ifCond .eq 7, 3) := by decide +kernel
theorem dX6_reads_186 : decode cX6_reads 186 = .ok (.iconst 0, 1) := by decide +kernel
theorem dX6_reads_187 : decode cX6_reads 187 = .ok (.goto 9, 3) := by decide +kernel
theorem dX6_reads_190 : decode cX6_reads 190 = .ok (.aload_n 0, 1) := by decide +kernel
theorem dX6_reads_191 : decode cX6_reads 191 = .ok (.getfield 102, 3) := by decide +kernel
theorem dX6_reads_194 : decode cX6_reads 194 = .ok (.iconst 1, 1) := by decide +kernel
theorem dX6_reads_195 : decode cX6_reads 195 = .ok (.iadd, 1) := by decide +kernel
theorem dX6_reads_196 : decode cX6_reads 196 = .ok (.putfield 102, 3) := by decide +kernel
theorem dX6_reads_199 : decode cX6_reads 199 = .ok (.iinc 3 1, 3) := by decide +kernel
theorem dX6_reads_202 : decode cX6_reads 202 = .ok (.goto (-186), 3) := by decide +kernel
theorem dX6_reads_205 : decode cX6_reads 205 = .ok (.iload_n 1, 1) := by decide +kernel
theorem dX6_reads_206 : decode cX6_reads 206 = .ok (.ireturn, 1) := by decide +kernel
theorem dX6_append_0 : decode cX6_append 0 = .ok (.aload_n 0, 1) := by decide +kernel
theorem dX6_append_1 : decode cX6_append 1 = .ok (.iload_n 1, 1) := by decide +kernel
theorem dX6_append_2 : decode cX6_append 2 = .ok (.bipush 33, 2) := by decide +kernel
theorem dX6_append_4 : decode cX6_append 4 = .ok (.bipush 126, 2) := by decide +kernel
theorem dX6_append_6 : decode cX6_append 6 = .ok (.invokestatic 57, 3) := by decide +kernel
theorem dX6_append_9 : decode cX6_append 9 = .ok (.aload_n 0, 1) := by decide +kernel
theorem dX6_append_10 : decode cX6_append 10 = .ok (.getfield 105, 3) := by decide +kernel
theorem dX6_append_13 : decode cX6_append 13 = .ok (.bipush 60, 2) := by decide +kernel
theorem dX6_append_15 : decode cX6_append 15 = .ok (.if_icmp .ge 7, 3) := by decide +kernel
theorem dX6_append_18 : decode cX6_append 18 = .ok (.iconst 1, 1) := by decide +kernel
theorem dX6_append_19 : decode cX6_append 19 = .ok (.goto 4, 3) := by decide +kernel
theorem dX6_append_22 : decode cX6_append 22 = .ok (.iconst 0, 1) := by decide +kernel
theorem dX6_append_23 : decode cX6_append 23 = .ok (.iconst 1, 1) := by decide +kernel
theorem dX6_append_24 : decode cX6_append 24 = .ok (.invokevirtual 68, 3) := by decide +kernel
theorem dX6_append_27 : decode cX6_append 27 = .ok (.ifCond .ne 5, 3) := by decide +kernel
theorem dX6_append_30 : decode cX6_append 30 = .ok (.iconst 0, 1) := by decide +kernel
theorem dX6_append_31 : decode cX6_append 31 = .ok (.ireturn, 1) := by decide +kernel
theorem dX6_append_32 : decode cX6_append 32 = .ok (.aload_n 0, 1) := by decide +kernel
theorem dX6_append_33 : decode cX6_append 33 = .ok (.getfield 13, 3) := by decide +kernel
theorem dX6_append_36 : decode cX6_append 36 = .ok (.aload_n 0, 1) := by decide +kernel
theorem dX6_append_37 : decode cX6_append 37 = .ok (.getfield 105, 3) := by decide +kernel
theorem dX6_append_40 : decode cX6_append 40 = .ok (.iload_n 1, 1) := by decide +kernel
theorem dX6_append_41 : decode cX6_append 41 = .ok (.iastore, 1) := by decide +kernel
theorem dX6_append_42 : decode cX6_append 42 = .ok (.aload_n 0, 1) := by decide +kernel
theorem dX6_append_43 : decode cX6_append 43 = .ok (.dup, 1) := by decide +kernel
theorem dX6_append_44 : decode cX6_append 44 = .ok (.getfield 105, 3) := by decide +kernel
theorem dX6_append_47 : decode cX6_append 47 = .ok (.iconst 1, 1) := by decide +kernel
theorem dX6_append_48 : decode cX6_append 48 = .ok (.iadd, 1) := by decide +kernel
theorem dX6_append_49 : decode cX6_append 49 = .ok (.putfield 105, 3) := by decide +kernel
theorem dX6_append_52 : decode cX6_append 52 = .ok (.aload_n 0, 1) := by decide +kernel
theorem dX6_append_53 : decode cX6_append 53 = .ok (.getfield 105, 3) := by decide +kernel
theorem dX6_append_56 : decode cX6_append 56 = .ok (.ireturn, 1) := by decide +kernel
theorem dX6_clearBuffer_0 : decode cX6_clearBuffer 0 = .ok (.aload_n 0, 1) := by decide +kernel
theorem dX6_clearBuffer_1 : decode cX6_clearBuffer 1 = .ok (.iconst 0, 1) := by decide +kernel
theorem dX6_clearBuffer_2 : decode cX6_clearBuffer 2 = .ok (.putfield 22, 3) := by decide +kernel
theorem dX6_clearBuffer_5 : decode cX6_clearBuffer 5 = .ok (.aload_n 0, 1) := by decide +kernel
theorem dX6_clearBuffer_6 : decode cX6_clearBuffer 6 = .ok (.getfield 105, 3) := by decide +kernel
theorem dX6_clearBuffer_9 : decode cX6_clearBuffer 9 = .ok (.istore_n 1, 1) := by decide +kernel
theorem dX6_clearBuffer_10 : decode cX6_clearBuffer 10 = .ok (.aload_n 0, 1) := by decide +kernel
theorem dX6_clearBuffer_11 : decode cX6_clearBuffer 11 = .ok (.iconst 0, 1) := by decide +kernel
theorem dX6_clearBuffer_12 : decode cX6_clearBuffer 12 = .ok (.putfield 105, 3) := by decide +kernel
theorem dX6_clearBuffer_15 : decode cX6_clearBuffer 15 = .ok (.iload_n 1, 1) := by decide +kernel
theorem dX6_clearBuffer_16 : decode cX6_clearBuffer 16 = .ok (.ireturn, 1) := by decide +kernel
theorem dX6_isAt_0 : decode cX6_isAt 0 = .ok (.aload_n 0, 1) := by decide +kernel
theorem dX6_isAt_1 : decode cX6_isAt 1 = .ok (.getfield 108, 3) := by decide +kernel
theorem dX6_isAt_4 : decode cX6_isAt 4 = .ok (.aload_n 0, 1) := by decide +kernel
theorem dX6_isAt_5 : decode cX6_isAt 5 = .ok (.getfield 105, 3) := by decide +kernel
theorem dX6_isAt_8 : decode cX6_isAt 8 = .ok (.if_icmp .ge 24, 3) := by decide +kernel
theorem dX6_isAt_11 : decode cX6_isAt 11 = .ok (.aload_n 0, 1) := by decide +kernel
theorem dX6_isAt_12 : decode cX6_isAt 12 = .ok (.getfield 13, 3) := by decide +kernel
theorem dX6_isAt_15 : decode cX6_isAt 15 = .ok (.aload_n 0, 1) := by decide +kernel
theorem dX6_isAt_16 : decode cX6_isAt 16 = .ok (.getfield 108, 3) := by decide +kernel
theorem dX6_isAt_19 : decode cX6_isAt 19 = .ok (.iaload, 1) := by decide +kernel
theorem dX6_isAt_20 : decode cX6_isAt 20 = .ok (.iload_n 1, 1) := by decide +kernel
theorem dX6_isAt_21 : decode cX6_isAt 21 = .ok (.iload_n 2, 1) := by decide +kernel
theorem dX6_isAt_22 : decode cX6_isAt 22 = .ok (.invokestatic 57, 3) := by decide +kernel
theorem dX6_isAt_25 : decode cX6_isAt 25 = .ok (.ifCond .eq 7, 3) := by decide +kernel
theorem dX6_isAt_28 : decode cX6_isAt 28 = .ok (.iconst 1, 1) := by decide +kernel
theorem dX6_isAt_29 : decode cX6_isAt 29 = .ok (.goto 4, 3) := by decide +kernel
theorem dX6_isAt_32 : decode cX6_isAt 32 = .ok (.iconst 0, 1) := by decide +kernel
theorem dX6_isAt_33 : decode cX6_isAt 33 = .ok (.ireturn, 1) := by decide +kernel
theorem dX6_sign_0 : decode cX6_sign 0 = .ok (.aload_n 0, 1) := by decide +kernel
theorem dX6_sign_1 : decode cX6_sign 1 = .ok (.iload_n 1, 1) := by decide +kernel
theorem dX6_sign_2 : decode cX6_sign 2 = .ok (.iload_n 1, 1) := by decide +kernel
theorem dX6_sign_3 : decode cX6_sign 3 = .ok (.invokevirtual 111, 3) := by decide +kernel
theorem dX6_sign_6 : decode cX6_sign 6 = .ok (.istore_n 2, 1) := by decide +kernel
theorem dX6_sign_7 : decode cX6_sign 7 = .ok (.aload_n 0, 1) := by decide +kernel
theorem dX6_sign_8 : decode cX6_sign 8 = .ok (.dup, 1) := by decide +kernel
theorem dX6_sign_9 : decode cX6_sign 9 = .ok (.getfield 108, 3) := by decide +kernel
theorem dX6_sign_12 : decode cX6_sign 12 = .ok (.iload_n 2, 1) := by decide +kernel
theorem dX6_sign_13 : decode cX6_sign 13 = .ok (.ifCond .eq 7, 3) := by decide +kernel
theorem dX6_sign_16 : decode cX6_sign 16 = .ok (.iconst 1, 1) := by decide +kernel
theorem dX6_sign_17 : decode cX6_sign 17 = .ok (.goto 4, 3) := by decide +kernel
theorem dX6_sign_20 : decode cX6_sign 20 = .ok (.iconst 0, 1) := by decide +kernel
theorem dX6_sign_21 : decode cX6_sign 21 = .ok (.iadd, 1) := by decide +kernel
theorem dX6_sign_22 : decode cX6_sign 22 = .ok (.putfield 108, 3) := by decide +kernel
theorem dX6_sign_25 : decode cX6_sign 25 = .ok (.iload_n 2, 1) := by decide +kernel
theorem dX6_sign_26 : decode cX6_sign 26 = .ok (.ireturn, 1) := by decide +kernel
theorem dX6_number_0 : decode cX6_number 0 = .ok (.aload_n 0, 1) := by decide +kernel
theorem dX6_number_1 : decode cX6_number 1 = .ok (.bipush 48, 2) := by decide +kernel
theorem dX6_number_3 : decode cX6_number 3 = .ok (.iload_n 1, 1) := by decide +kernel
theorem dX6_number_4 : decode cX6_number 4 = .ok (.iadd, 1) := by decide +kernel
theorem dX6_number_5 : decode cX6_number 5 = .ok (.bipush 48, 2) := by decide +kernel
theorem dX6_number_7 : decode cX6_number 7 = .ok (.iload_n 2, 1) := by decide +kernel
theorem dX6_number_8 : decode cX6_number 8 = .ok (.bipush 9, 2) := by decide +kernel
theorem dX6_number_10 : decode cX6_number 10 = .ok (.if_icmp .ge 7, 3) := by decide +kernel
theorem dX6_number_13 : decode cX6_number 13 = .ok (.iload_n 2, 1) := by decide +kernel
theorem dX6_number_14 : decode cX6_number 14 = .ok (.goto 5, 3) := by decide +kernel
theorem dX6_number_17 : decode cX6_number 17 = .ok (.bipush 9, 2) := by decide +kernel
theorem dX6_number_19 : decode cX6_number 19 = .ok (.iadd, 1) := by decide +kernel
theorem dX6_number_20 : decode cX6_number 20 = .ok (.invokevirtual 111, 3) := by decide +kernel
theorem dX6_number_23 : decode cX6_number 23 = .ok (.istore_n 3, 1) := by decide +kernel
theorem dX6_number_24 : decode cX6_number 24 = .ok (.iload_n 3, 1) := by decide +kernel
theorem dX6_number_25 : decode cX6_number 25 = .ok (.ifCond .eq 18, 3) := by decide +kernel
theorem dX6_number_28 : decode cX6_number 28 = .ok (.aload_n 0, 1) := by decide +kernel
theorem dX6_number_29 : decode cX6_number 29 = .ok (.getfield 13, 3) := by decide +kernel
theorem dX6_number_32 : decode cX6_number 32 = .ok (.aload_n 0, 1) := by decide +kernel
theorem dX6_number_33 : decode cX6_number 33 = .ok (.getfield 108, 3) := by decide +kernel
theorem dX6_number_36 : decode cX6_number 36 = .ok (.iaload, 1) := by decide +kernel
theorem dX6_number_37 : decode cX6_number 37 = .ok (.bipush 48, 2) := by decide +kernel
theorem dX6_number_39 : decode cX6_number 39 = .ok (.isub, 1) := by decide +kernel
theorem dX6_number_40 : decode cX6_number 40 = .ok (.goto 4, 3) := by decide +kernel
theorem dX6_number_43 : decode cX6_number 43 = .ok (.iconst (-1), 1) := by decide +kernel
theorem dX6_number_44 : decode cX6_number 44 = .ok (.istore 4, 2) := by decide +kernel
theorem dX6_number_46 : decode cX6_number 46 = .ok (.aload_n 0, 1) := by decide +kernel
theorem dX6_number_47 : decode cX6_number 47 = .ok (.dup, 1) := by decide +kernel
theorem dX6_number_48 : decode cX6_number 48 = .ok (.getfield 108, 3) := by decide +kernel
theorem dX6_number_51 : decode cX6_number 51 = .ok (.iload_n 3, 1) := by decide +kernel
theorem dX6_number_52 : decode cX6_number 52 = .ok (.ifCond .eq 7, 3) := by decide +kernel
theorem dX6_number_55 : decode cX6_number 55 = .ok (.iconst 1, 1) := by decide +kernel
theorem dX6_number_56 : decode cX6_number 56 = .ok (.goto 4, 3) := by decide +kernel
theorem dX6_number_59 : decode cX6_number 59 = .ok (.iconst 0, 1) := by decide +kernel
theorem dX6_number_60 : decode cX6_number 60 = .ok (.iadd, 1) := by decide +kernel
theorem dX6_number_61 : decode cX6_number 61 = .ok (.putfield 108, 3) := by decide +kernel
theorem dX6_number_64 : decode cX6_number 64 = .ok (.iload 4, 2) := by decide +kernel
theorem dX6_number_66 : decode cX6_number 66 = .ok (.ifCond .le 69, 3) := by decide +kernel
theorem dX6_number_69 : decode cX6_number 69 = .ok (.aload_n 0, 1) := by decide +kernel
theorem dX6_number_70 : decode cX6_number 70 = .ok (.bipush 48, 2) := by decide +kernel
theorem dX6_number_72 : decode cX6_number 72 = .ok (.bipush 57, 2) := by decide +kernel
theorem dX6_number_74 : decode cX6_number 74 = .ok (.invokevirtual 111, 3) := by decide +kernel
theorem dX6_number_77 : decode cX6_number 77 = .ok (.ifCond .eq 58, 3) := by decide +kernel
theorem dX6_number_80 : decode cX6_number 80 = .ok (.bipush 10, 2) := by decide +kernel
theorem dX6_number_82 : decode cX6_number 82 = .ok (.iload 4, 2) := by decide +kernel
theorem dX6_number_84 : decode cX6_number 84 = .ok (.imul, 1) := by decide +kernel
theorem dX6_number_85 : decode cX6_number 85 = .ok (.aload_n 0, 1) := by decide +kernel
theorem dX6_number_86 : decode cX6_number 86 = .ok (.getfield 13, 3) := by decide +kernel
theorem dX6_number_89 : decode cX6_number 89 = .ok (.aload_n 0, 1) := by decide +kernel
theorem dX6_number_90 : decode cX6_number 90 = .ok (.getfield 108, 3) := by decide +kernel
theorem dX6_number_93 : decode cX6_number 93 = .ok (.iaload, 1) := by decide +kernel
theorem dX6_number_94 : decode cX6_number 94 = .ok (.iadd, 1) := by decide +kernel
theorem dX6_number_95 : decode cX6_number 95 = .ok (.bipush 48, 2) := by decide +kernel
theorem dX6_number_97 : decode cX6_number 97 = .ok (.isub, 1) := by decide +kernel
theorem dX6_number_98 : decode cX6_number 98 = .ok (.iload_n 2, 1) := by decide +kernel
theorem dX6_number_99 : decode cX6_number 99 = .ok (.if_icmp .gt 36, 3) := by decide +kernel
theorem dX6_number_102 : decode cX6_number 102 = .ok (.bipush 10, 2) := by decide +kernel
theorem dX6_number_104 : decode cX6_number 104 = .ok (.iload 4, 2) := by decide +kernel
theorem dX6_number_106 : decode cX6_number 106 = .ok (.imul, 1) := by decide +kernel
theorem dX6_number_107 : decode cX6_number 107 = .ok (.aload_n 0, 1) := by decide +kernel
theorem dX6_number_108 : decode cX6_number 108 = .ok (.getfield 13, 3) := by decide +kernel
theorem dX6_number_111 : decode cX6_number 111 = .ok (.aload_n 0, 1) := by decide +kernel
theorem dX6_number_112 : decode cX6_number 112 = .ok (.getfield 108, 3) := by decide +kernel
theorem dX6_number_115 : decode cX6_number 115 = .ok (.iaload, 1) := by decide +kernel
theorem dX6_number_116 : decode cX6_number 116 = .ok (.iadd, 1) := by decide +kernel
theorem dX6_number_117 : decode cX6_number 117 = .ok (.bipush 48, 2) := by decide +kernel
theorem dX6_number_119 : decode cX6_number 119 = .ok (.isub, 1) := by decide +kernel
theorem dX6_number_120 : decode cX6_number 120 = .ok (.istore 4, 2) := by decide +kernel
theorem dX6_number_122 : decode cX6_number 122 = .ok (.aload_n 0, 1) := by decide +kernel
theorem dX6_number_123 : decode cX6_number 123 = .ok (.dup, 1) := by decide +kernel
theorem dX6_number_124 : decode cX6_number 124 = .ok (.getfield 108, 3) := by decide +kernel
theorem dX6_number_127 : decode cX6_number 127 = .ok (.iconst 1, 1) := by decide +kernel
theorem dX6_number_128 : decode cX6_number 128 = .ok (.iadd, 1) := by decide +kernel
theorem dX6_number_129 : decode cX6_number 129 = .ok (.putfield 108, 3) := by decide +kernel
theorem dX6_number_132 : decode cX6_number 132 = .ok (.goto (-68), 3) := by decide +kernel
theorem dX6_number_135 : decode cX6_number 135 = .ok (.iload 4, 2) := by decide +kernel
theorem dX6_number_137 : decode cX6_number 137 = .ok (.ireturn, 1) := by decide +kernel
theorem dX6_part_0 : decode cX6_part 0 = .ok (.aload_n 0, 1) := by decide +kernel
theorem dX6_part_1 : decode cX6_part 1 = .ok (.bipush 115, 2) := by decide +kernel
theorem dX6_part_3 : decode cX6_part 3 = .ok (.invokevirtual 115, 3) := by decide +kernel
theorem dX6_part_6 : decode cX6_part 6 = .ok (.ifCond .eq 30, 3) := by decide +kernel
theorem dX6_part_9 : decode cX6_part 9 = .ok (.aload_n 0, 1) := by decide +kernel
theorem dX6_part_10 : decode cX6_part 10 = .ok (.aload_n 0, 1) := by decide +kernel
theorem dX6_part_11 : decode cX6_part 11 = .ok (.iconst 1, 1) := by decide +kernel
theorem dX6_part_12 : decode cX6_part 12 = .ok (.sipush 6764, 3) := by decide +kernel
theorem dX6_part_15 : decode cX6_part 15 = .ok (.invokevirtual 118, 3) := by decide +kernel
theorem dX6_part_18 : decode cX6_part 18 = .ok (.putfield 121, 3) := by decide +kernel
theorem dX6_part_21 : decode cX6_part 21 = .ok (.aload_n 0, 1) := by decide +kernel
theorem dX6_part_22 : decode cX6_part 22 = .ok (.getfield 121, 3) := by decide +kernel
theorem dX6_part_25 : decode cX6_part 25 = .ok (.ifCond .le 8, 3) := by decide +kernel
theorem dX6_part_28 : decode cX6_part 28 = .ok (.bipush 115, 2) := by decide +kernel
theorem dX6_part_30 : decode cX6_part 30 = .ok (.goto 5, 3) := by decide +kernel
theorem dX6_part_33 : decode cX6_part 33 = .ok (.bipush 32, 2) := by decide +kernel
theorem dX6_part_35 : decode cX6_part 35 = .ok (.ireturn, 1) := by decide +kernel
theorem dX6_part_36 : decode cX6_part 36 = .ok (.aload_n 0, 1) := by decide +kernel
theorem dX6_part_37 : decode cX6_part 37 = .ok (.bipush 102, 2) := by decide +kernel
theorem dX6_part_39 : decode cX6_part 39 = .ok (.invokevirtual 115, 3) := by decide +kernel
theorem dX6_part_42 : decode cX6_part 42 = .ok (.ifCond .eq 29, 3) := by decide +kernel
theorem dX6_part_45 : decode cX6_part 45 = .ok (.aload_n 0, 1) := by decide +kernel
theorem dX6_part_46 : decode cX6_part 46 = .ok (.aload_n 0, 1) := by decide +kernel
theorem dX6_part_47 : decode cX6_part 47 = .ok (.iconst 0, 1) := by decide +kernel
theorem dX6_part_48 : decode cX6_part 48 = .ok (.bipush 63, 2) := by decide +kernel
theorem dX6_part_50 : decode cX6_part 50 = .ok (.invokevirtual 118, 3) := by decide +kernel
theorem dX6_part_53 : decode cX6_part 53 = .ok (.putfield 121, 3) := by decide +kernel
theorem dX6_part_56 : decode cX6_part 56 = .ok (.aload_n 0, 1) := by decide +kernel
theorem dX6_part_57 : decode cX6_part 57 = .ok (.getfield 121, 3) := by decide +kernel
theorem dX6_part_60 : decode cX6_part 60 = .ok (.ifCond .lt 8, 3) := by decide +kernel
theorem dX6_part_63 : decode cX6_part 63 = .ok (.bipush 102, 2) := by decide +kernel
theorem dX6_part_65 : decode cX6_part 65 = .ok (.goto 5, 3) := by decide +kernel
theorem dX6_part_68 : decode cX6_part 68 = .ok (.bipush 32, 2) := by decide +kernel
theorem dX6_part_70 : decode cX6_part 70 = .ok (.ireturn, 1) := by decide +kernel
theorem dX6_part_71 : decode cX6_part 71 = .ok (.aload_n 0, 1) := by decide +kernel
theorem dX6_part_72 : decode cX6_part 72 = .ok (.aload_n 0, 1) := by decide +kernel
theorem dX6_part_73 : decode cX6_part 73 = .ok (.bipush 48, 2) := by decide +kernel
theorem dX6_part_75 : decode cX6_part 75 = .ok (.bipush 53, 2) := by decide +kernel
theorem dX6_part_77 : decode cX6_part 77 = .ok (.invokevirtual 111, 3) := by decide +kernel
theorem dX6_part_80 : decode cX6_part 80 = .ok (.ifCond .eq 18, 3) := by decide +kernel
theorem dX6_part_83 : decode cX6_part 83 = .ok (.aload_n 0, 1) := by decide +kernel
theorem dX6_part_84 : decode cX6_part 84 = .ok (.getfield 13, 3) := by decide +kernel
theorem dX6_part_87 : decode cX6_part 87 = .ok (.aload_n 0, 1) := by decide +kernel
theorem dX6_part_88 : decode cX6_part 88 = .ok (.getfield 108, 3) := by decide +kernel
theorem dX6_part_91 : decode cX6_part 91 = .ok (.iaload, 1) := by decide +kernel
theorem dX6_part_92 : decode cX6_part 92 = .ok (.bipush 48, 2) := by decide +kernel
theorem dX6_part_94 : decode cX6_part 94 = .ok (.isub, 1) := by decide +kernel
theorem dX6_part_95 : decode cX6_part 95 = .ok (.goto 4, 3) := by decide +kernel
theorem dX6_part_98 : decode cX6_part 98 = .ok (.iconst (-1), 1) := by decide +kernel
theorem dX6_part_99 : decode cX6_part 99 = .ok (.putfield 121, 3) := by decide +kernel
theorem dX6_part_102 : decode cX6_part 102 = .ok (.aload_n 0, 1) := by decide +kernel
theorem dX6_part_103 : decode cX6_part 103 = .ok (.dup, 1) := by decide +kernel
theorem dX6_part_104 : decode cX6_part 104 = .ok (.getfield 108, 3) := by decide +kernel
theorem dX6_part_107 : decode cX6_part 107 = .ok (.aload_n 0, 1) := by decide +kernel
theorem dX6_part_108 : decode cX6_part 108 = .ok (.getfield 121, 3) := by decide +kernel
theorem dX6_part_111 : decode cX6_part 111 = .ok (.ifCond .lt 7, 3) := by decide +kernel
theorem dX6_part_114 : decode cX6_part 114 = .ok (.iconst 1, 1) := by decide +kernel
theorem dX6_part_115 : decode cX6_part 115 = .ok (.goto 4, 3) := by decide +kernel
theorem dX6_part_118 : decode cX6_part 118 = .ok (.iconst 0, 1) := by decide +kernel
theorem dX6_part_119 : decode cX6_part 119 = .ok (.iadd, 1) := by decide +kernel
theorem dX6_part_120 : decode cX6_part 120 = .ok (.putfield 108, 3) := by decide +kernel
theorem dX6_part_123 : decode cX6_part 123 = .ok (.aload_n 0, 1) := by decide +kernel
theorem dX6_part_124 : decode cX6_part 124 = .ok (.getfield 121, 3) := by decide +kernel
theorem dX6_part_127 : decode cX6_part 127 = .ok (.ifCond .lt 26, 3) := by decide +kernel
theorem dX6_part_130 : decode cX6_part 130 = .ok (.aload_n 0, 1) := by decide +kernel
theorem dX6_part_131 : decode cX6_part 131 = .ok (.getfield 108, 3) := by decide +kernel
theorem dX6_part_134 : decode cX6_part 134 = .ok (.aload_n 0, 1) := by decide +kernel
theorem dX6_part_135 : decode cX6_part 135 = .ok (.getfield 105, 3) := by decide +kernel
theorem dX6_part_138 : decode cX6_part 138 = .ok (.if_icmp .ge 15, 3) := by decide +kernel
theorem dX6_part_141 : decode cX6_part 141 = .ok (.aload_n 0, 1) := by decide +kernel
theorem dX6_part_142 : decode cX6_part 142 = .ok (.getfield 13, 3) := by decide +kernel
theorem dX6_part_145 : decode cX6_part 145 = .ok (.aload_n 0, 1) := by decide +kernel
theorem dX6_part_146 : decode cX6_part 146 = .ok (.getfield 108, 3) := by decide +kernel
theorem dX6_part_149 : decode cX6_part 149 = .ok (.iaload, 1) := by decide +kernel
theorem dX6_part_150 : decode cX6_part 150 = .ok (.goto 5, 3) := by decide +kernel
theorem dX6_part_153 : decode cX6_part 153 = .ok (.bipush 32, 2) := by decide +kernel
theorem dX6_part_155 : decode cX6_part 155 = .ok (.istore_n 1, 1) := by decide +kernel
theorem dX6_part_156 : decode cX6_part 156 = .ok (.iload_n 1, 1) := by decide +kernel
theorem dX6_part_157 : decode cX6_part 157 = .ok (.bipush 61, 2) := by decide +kernel
theorem dX6_part_159 : decode cX6_part 159 = .ok (.if_icmp .eq 21, 3) := by decide +kernel
theorem dX6_part_162 : decode cX6_part 162 = .ok (.iload_n 1, 1) := by decide +kernel
theorem dX6_part_163 : decode cX6_part 163 = .ok (.bipush 43, 2) := by decide +kernel
theorem dX6_part_165 : decode cX6_part 165 = .ok (.if_icmp .eq 15, 3) := by decide +kernel
theorem dX6_part_168 : decode cX6_part 168 = .ok (.iload_n 1, 1) := by decide +kernel
theorem dX6_part_169 : decode cX6_part 169 = .ok (.bipush 45, 2) := by decide +kernel
theorem dX6_part_171 : decode cX6_part 171 = .ok (.if_icmp .eq 9, 3) := by decide +kernel
theorem dX6_part_174 : decode cX6_part 174 = .ok (.iload_n 1, 1) := by decide +kernel
theorem dX6_part_175 : decode cX6_part 175 = .ok (.bipush 94, 2) := by decide +kernel
theorem dX6_part_177 : decode cX6_part 177 = .ok (.if_icmp .ne 7, 3) := by decide +kernel
theorem dX6_part_180 : decode cX6_part 180 = .ok (.iconst 1, 1) := by decide +kernel
theorem dX6_part_181 : decode cX6_part 181 = .ok (.goto 4, 3) := by decide +kernel
theorem dX6_part_184 : decode cX6_part 184 = .ok (.iconst 0, 1) := by decide +kernel
theorem dX6_part_185 : decode cX6_part 185 = .ok (.istore_n 2, 1) := by decide +kernel
theorem dX6_part_186 : decode cX6_part 186 = .ok (.aload_n 0, 1) := by decide +kernel
theorem dX6_part_187 : decode cX6_part 187 = .ok (.dup, 1) := by decide +kernel
theorem dX6_part_188 : decode cX6_part 188 = .ok (.getfield 108, 3) := by decide +kernel
theorem dX6_part_191 : decode cX6_part 191 = .ok (.iload_n 2, 1) := by decide +kernel
theorem dX6_part_192 : decode cX6_part 192 = .ok (.ifCond .eq 7, 3) := by decide +kernel
theorem dX6_part_195 : decode cX6_part 195 = .ok (.iconst 1, 1) := by decide +kernel
theorem dX6_part_196 : decode cX6_part 196 = .ok (.goto 4, 3) := by decide +kernel
theorem dX6_part_199 : decode cX6_part 199 = .ok (.iconst 0, 1) := by decide +kernel
theorem dX6_part_200 : decode cX6_part 200 = .ok (.iadd, 1) := by decide +kernel
theorem dX6_part_201 : decode cX6_part 201 = .ok (.putfield 108, 3) := by decide +kernel
theorem dX6_part_204 : decode cX6_part 204 = .ok (.aload_n 0, 1) := by decide +kernel
theorem dX6_part_205 : decode cX6_part 205 = .ok (.iload_n 2, 1) := by decide +kernel
theorem dX6_part_206 : decode cX6_part 206 = .ok (.ifCond .ne 7, 3) := by decide +kernel
theorem dX6_part_209 : decode cX6_part 209 = .ok (.iconst (-1), 1) := by decide +kernel
theorem dX6_part_210 : decode cX6_part 210 = .ok (.goto 31, 3) := by decide +kernel
theorem dX6_part_213 : decode cX6_part 213 = .ok (.iload_n 1, 1) := by decide +kernel
theorem dX6_part_214 : decode cX6_part 214 = .ok (.bipush 94, 2) := by decide +kernel
theorem dX6_part_216 : decode cX6_part 216 = .ok (.if_icmp .ne 7, 3) := by decide +kernel
theorem dX6_part_219 : decode cX6_part 219 = .ok (.iconst 0, 1) := by decide +kernel
theorem dX6_part_220 : decode cX6_part 220 = .ok (.goto 21, 3) := by decide +kernel
theorem dX6_part_223 : decode cX6_part 223 = .ok (.aload_n 0, 1) := by decide +kernel
theorem dX6_part_224 : decode cX6_part 224 = .ok (.iconst 0, 1) := by decide +kernel
theorem dX6_part_225 : decode cX6_part 225 = .ok (.iload_n 1, 1) := by decide +kernel
theorem dX6_part_226 : decode cX6_part 226 = .ok (.bipush 61, 2) := by decide +kernel
theorem dX6_part_228 : decode cX6_part 228 = .ok (.if_icmp .ne 9, 3) := by decide +kernel
theorem dX6_part_231 : decode cX6_part 231 = .ok (.sipush 6764, 3) := by decide +kernel
theorem dX6_part_234 : decode cX6_part 234 = .ok (.goto 4, 3) := by decide +kernel
theorem dX6_part_237 : decode cX6_part 237 = .ok (.iconst 5, 1) := by decide +kernel
theorem dX6_part_238 : decode cX6_part 238 = .ok (.invokevirtual 118, 3) := by decide +kernel
theorem dX6_part_241 : decode cX6_part 241 = .ok (.putfield 124, 3) := by decide +kernel
theorem dX6_part_244 : decode cX6_part 244 = .ok (.aload_n 0, 1) := by decide +kernel
theorem dX6_part_245 : decode cX6_part 245 = .ok (.getfield 124, 3) := by decide +kernel
theorem dX6_part_248 : decode cX6_part 248 = .ok (.ifCond .lt 7, 3) := by decide +kernel
theorem dX6_part_251 : decode cX6_part 251 = .ok (.iload_n 1, 1) := by decide +kernel
theorem dX6_part_252 : decode cX6_part 252 = .ok (.goto 5, 3) := by decide +kernel
theorem dX6_part_255 : decode cX6_part 255 = .ok (.bipush 32, 2) := by decide +kernel
theorem dX6_part_257 : decode cX6_part 257 = .ok (.ireturn, 1) := by decide +kernel
theorem dX6_isWhole_0 : decode cX6_isWhole 0 = .ok (.aload_n 0, 1) := by decide +kernel
theorem dX6_isWhole_1 : decode cX6_isWhole 1 = .ok (.iconst 0, 1) := by decide +kernel
theorem dX6_isWhole_2 : decode cX6_isWhole 2 = .ok (.putfield 108, 3) := by decide +kernel
theorem dX6_isWhole_5 : decode cX6_isWhole 5 = .ok (.iconst 1, 1) := by decide +kernel
theorem dX6_isWhole_6 : decode cX6_isWhole 6 = .ok (.istore_n 1, 1) := by decide +kernel
theorem dX6_isWhole_7 : decode cX6_isWhole 7 = .ok (.iconst 1, 1) := by decide +kernel
theorem dX6_isWhole_8 : decode cX6_isWhole 8 = .ok (.istore_n 2, 1) := by decide +kernel
theorem dX6_isWhole_9 : decode cX6_isWhole 9 = .ok (.iload_n 1, 1) := by decide +kernel
theorem dX6_isWhole_10 : decode cX6_isWhole 10 = .ok (.ifCond .eq 40, 3) := by decide +kernel
theorem dX6_isWhole_13 : decode cX6_isWhole 13 = .ok (.aload_n 0, 1) := by decide +kernel
theorem dX6_isWhole_14 : decode cX6_isWhole 14 = .ok (.invokevirtual 127, 3) := by decide +kernel
theorem dX6_isWhole_17 : decode cX6_isWhole 17 = .ok (.bipush 32, 2) := by decide +kernel
theorem dX6_isWhole_19 : decode cX6_isWhole 19 = .ok (.if_icmp .eq 7, 3) := by decide +kernel
theorem dX6_isWhole_22 : decode cX6_isWhole 22 = .ok (.iconst 1, 1) := by decide +kernel
theorem dX6_isWhole_23 : decode cX6_isWhole 23 = .ok (.goto 4, 3) := by decide +kernel
theorem dX6_isWhole_26 : decode cX6_isWhole 26 = .ok (.iconst 0, 1) := by decide +kernel
theorem dX6_isWhole_27 : decode cX6_isWhole 27 = .ok (.istore_n 2, 1) := by decide +kernel
theorem dX6_isWhole_28 : decode cX6_isWhole 28 = .ok (.iload_n 2, 1) := by decide +kernel
theorem dX6_isWhole_29 : decode cX6_isWhole 29 = .ok (.ifCond .eq 16, 3) := by decide +kernel
theorem dX6_isWhole_32 : decode cX6_isWhole 32 = .ok (.aload_n 0, 1) := by decide +kernel
theorem dX6_isWhole_33 : decode cX6_isWhole 33 = .ok (.bipush 59, 2) := by decide +kernel
theorem dX6_isWhole_35 : decode cX6_isWhole 35 = .ok (.invokevirtual 115, 3) := by decide +kernel
theorem dX6_isWhole_38 : decode cX6_isWhole 38 = .ok (.ifCond .eq 7, 3) := by decide +kernel
theorem dX6_isWhole_41 : decode cX6_isWhole 41 = .ok (.iconst 1, 1) := by decide +kernel
theorem dX6_isWhole_42 : decode cX6_isWhole 42 = .ok (.goto 4, 3) := by decide +kernel
theorem dX6_isWhole_45 : decode cX6_isWhole 45 = .ok (.iconst 0, 1) := by decide +kernel
theorem dX6_isWhole_46 : decode cX6_isWhole 46 = .ok (.istore_n 1, 1) := by decide +kernel
theorem dX6_isWhole_47 : decode cX6_isWhole 47 = .ok (.goto (-38), 3) := by decide +kernel
theorem dX6_isWhole_50 : decode cX6_isWhole 50 = .ok (.iload_n 2, 1) := by decide +kernel
theorem dX6_isWhole_51 : decode cX6_isWhole 51 = .ok (.ifCond .eq 18, 3) := by decide +kernel
theorem dX6_isWhole_54 : decode cX6_isWhole 54 = .ok (.aload_n 0, 1) := by decide +kernel
theorem dX6_isWhole_55 : decode cX6_isWhole 55 = .ok (.getfield 108, 3) := by decide +kernel
theorem dX6_isWhole_58 : decode cX6_isWhole 58 = .ok (.aload_n 0, 1) := by decide +kernel
theorem dX6_isWhole_59 : decode cX6_isWhole 59 = .ok (.getfield 105, 3) := by decide +kernel
theorem dX6_isWhole_62 : decode cX6_isWhole 62 = .ok (.if_icmp .ne 7, 3) := by decide +kernel
theorem dX6_isWhole_65 : decode cX6_isWhole 65 = .ok (.iconst 1, 1) := by decide +kernel
theorem dX6_isWhole_66 : decode cX6_isWhole 66 = .ok (.goto 4, 3) := by decide +kernel
theorem dX6_isWhole_69 : decode cX6_isWhole 69 = .ok (.iconst 0, 1) := by decide +kernel
theorem dX6_isWhole_70 : decode cX6_isWhole 70 = .ok (.ireturn, 1) := by decide +kernel
theorem dX6_firstError_0 : decode cX6_firstError 0 = .ok (.aload_n 0, 1) := by decide +kernel
theorem dX6_firstError_1 : decode cX6_firstError 1 = .ok (.iconst 0, 1) := by decide +kernel
theorem dX6_firstError_2 : decode cX6_firstError 2 = .ok (.putfield 22, 3) := by decide +kernel
theorem dX6_firstError_5 : decode cX6_firstError 5 = .ok (.aload_n 0, 1) := by decide +kernel
theorem dX6_firstError_6 : decode cX6_firstError 6 = .ok (.invokevirtual 131, 3) := by decide +kernel
theorem dX6_firstError_9 : decode cX6_firstError 9 = .ok (.pop, 1) := by decide +kernel
theorem dX6_firstError_10 : decode cX6_firstError 10 = .ok (.aload_n 0, 1) := by decide +kernel
theorem dX6_firstError_11 : decode cX6_firstError 11 = .ok (.getfield 108, 3) := by decide +kernel
theorem dX6_firstError_14 : decode cX6_firstError 14 = .ok (.ireturn, 1) := by decide +kernel
theorem dX6_reason_0 : decode cX6_reason 0 = .ok (.iload_n 1, 1) := by decide +kernel
theorem dX6_reason_1 : decode cX6_reason 1 = .ok (.bipush 43, 2) := by decide +kernel
theorem dX6_reason_3 : decode cX6_reason 3 = .ok (.if_icmp .ne 36, 3) := by decide +kernel
theorem dX6_reason_6 : decode cX6_reason 6 = .ok (.aload_n 0, 1) := by decide +kernel
theorem dX6_reason_7 : decode cX6_reason 7 = .ok (.getfield 7, 3) := by decide +kernel
theorem dX6_reason_10 : decode cX6_reason 10 = .ok (.aload_n 0, 1) := by decide +kernel
theorem dX6_reason_11 : decode cX6_reason 11 = .ok (.getfield 121, 3) := by decide +kernel
theorem dX6_reason_14 : decode cX6_reason 14 = .ok (.iaload, 1) := by decide +kernel
theorem dX6_reason_15 : decode cX6_reason 15 = .ok (.aload_n 0, 1) := by decide +kernel
theorem dX6_reason_16 : decode cX6_reason 16 = .ok (.getfield 7, 3) := by decide +kernel
theorem dX6_reason_19 : decode cX6_reason 19 = .ok (.aload_n 0, 1) := by decide +kernel
theorem dX6_reason_20 : decode cX6_reason 20 = .ok (.getfield 124, 3) := by decide +kernel
theorem dX6_reason_23 : decode cX6_reason 23 = .ok (.iaload, 1) := by decide +kernel
theorem dX6_reason_24 : decode cX6_reason 24 = .ok (.iadd, 1) := by decide +kernel
theorem dX6_reason_25 : decode cX6_reason 25 = .ok (.sipush 6764, 3) := by decide +kernel
theorem dX6_reason_28 : decode cX6_reason 28 = .ok (.if_icmp .le 7, 3) := by decide +kernel
theorem dX6_reason_31 : decode cX6_reason 31 = .ok (.iconst 1, 1) := by decide +kernel
theorem dX6_reason_32 : decode cX6_reason 32 = .ok (.goto 118, 3) := by decide +kernel
theorem dX6_reason_35 : decode cX6_reason 35 = .ok (.iconst 0, 1) := by decide +kernel
theorem dX6_reason_36 : decode cX6_reason 36 = .ok (.goto 114, 3) := by decide +kernel
theorem dX6_reason_39 : decode cX6_reason 39 = .ok (.iload_n 1, 1) := by decide +kernel
theorem dX6_reason_40 : decode cX6_reason 40 = .ok (.bipush 45, 2) := by decide +kernel
theorem dX6_reason_42 : decode cX6_reason 42 = .ok (.if_icmp .ne 32, 3) := by decide +kernel
theorem dX6_reason_45 : decode cX6_reason 45 = .ok (.aload_n 0, 1) := by decide +kernel
theorem dX6_reason_46 : decode cX6_reason 46 = .ok (.getfield 7, 3) := by decide +kernel
theorem dX6_reason_49 : decode cX6_reason 49 = .ok (.aload_n 0, 1) := by decide +kernel
theorem dX6_reason_50 : decode cX6_reason 50 = .ok (.getfield 121, 3) := by decide +kernel
theorem dX6_reason_53 : decode cX6_reason 53 = .ok (.iaload, 1) := by decide +kernel
theorem dX6_reason_54 : decode cX6_reason 54 = .ok (.aload_n 0, 1) := by decide +kernel
theorem dX6_reason_55 : decode cX6_reason 55 = .ok (.getfield 7, 3) := by decide +kernel
theorem dX6_reason_58 : decode cX6_reason 58 = .ok (.aload_n 0, 1) := by decide +kernel
theorem dX6_reason_59 : decode cX6_reason 59 = .ok (.getfield 124, 3) := by decide +kernel
theorem dX6_reason_62 : decode cX6_reason 62 = .ok (.iaload, 1) := by decide +kernel
theorem dX6_reason_63 : decode cX6_reason 63 = .ok (.if_icmp .ge 7, 3) := by decide +kernel
theorem dX6_reason_66 : decode cX6_reason 66 = .ok (.iconst 2, 1) := by decide +kernel
theorem dX6_reason_67 : decode cX6_reason 67 = .ok (.goto 83, 3) := by decide +kernel
theorem dX6_reason_70 : decode cX6_reason 70 = .ok (.iconst 0, 1) := by decide +kernel
theorem dX6_reason_71 : decode cX6_reason 71 = .ok (.goto 79, 3) := by decide +kernel
theorem dX6_reason_74 : decode cX6_reason 74 = .ok (.iload_n 1, 1) := by decide +kernel
theorem dX6_reason_75 : decode cX6_reason 75 = .ok (.bipush 94, 2) := by decide +kernel
theorem dX6_reason_77 : decode cX6_reason 77 = .ok (.if_icmp .ne 22, 3) := by decide +kernel
theorem dX6_reason_80 : decode cX6_reason 80 = .ok (.aload_n 0, 1) := by decide +kernel
theorem dX6_reason_81 : decode cX6_reason 81 = .ok (.aload_n 0, 1) := by decide +kernel
theorem dX6_reason_82 : decode cX6_reason 82 = .ok (.getfield 121, 3) := by decide +kernel
theorem dX6_reason_85 : decode cX6_reason 85 = .ok (.invokevirtual 78, 3) := by decide +kernel
theorem dX6_reason_88 : decode cX6_reason 88 = .ok (.ifCond .eq 7, 3) := by decide +kernel
theorem dX6_reason_91 : decode cX6_reason 91 = .ok (.iconst 0, 1) := by decide +kernel
theorem dX6_reason_92 : decode cX6_reason 92 = .ok (.goto 58, 3) := by decide +kernel
theorem dX6_reason_95 : decode cX6_reason 95 = .ok (.iconst 1, 1) := by decide +kernel
theorem dX6_reason_96 : decode cX6_reason 96 = .ok (.goto 54, 3) := by decide +kernel
theorem dX6_reason_99 : decode cX6_reason 99 = .ok (.iload_n 1, 1) := by decide +kernel
theorem dX6_reason_100 : decode cX6_reason 100 = .ok (.bipush 115, 2) := by decide +kernel
theorem dX6_reason_102 : decode cX6_reason 102 = .ok (.if_icmp .ne 22, 3) := by decide +kernel
theorem dX6_reason_105 : decode cX6_reason 105 = .ok (.aload_n 0, 1) := by decide +kernel
theorem dX6_reason_106 : decode cX6_reason 106 = .ok (.aload_n 0, 1) := by decide +kernel
theorem dX6_reason_107 : decode cX6_reason 107 = .ok (.getfield 121, 3) := by decide +kernel
theorem dX6_reason_110 : decode cX6_reason 110 = .ok (.invokevirtual 87, 3) := by decide +kernel
theorem dX6_reason_113 : decode cX6_reason 113 = .ok (.ifCond .eq 7, 3) := by decide +kernel
theorem dX6_reason_116 : decode cX6_reason 116 = .ok (.iconst 0, 1) := by decide +kernel
theorem dX6_reason_117 : decode cX6_reason 117 = .ok (.goto 33, 3) := by decide +kernel
theorem dX6_reason_120 : decode cX6_reason 120 = .ok (.iconst 3, 1) := by decide +kernel
theorem dX6_reason_121 : decode cX6_reason 121 = .ok (.goto 29, 3) := by decide +kernel
theorem dX6_reason_124 : decode cX6_reason 124 = .ok (.iload_n 1, 1) := by decide +kernel
theorem dX6_reason_125 : decode cX6_reason 125 = .ok (.bipush 102, 2) := by decide +kernel
theorem dX6_reason_127 : decode cX6_reason 127 = .ok (.if_icmp .ne 22, 3) := by decide +kernel
theorem dX6_reason_130 : decode cX6_reason 130 = .ok (.aload_n 0, 1) := by decide +kernel
theorem dX6_reason_131 : decode cX6_reason 131 = .ok (.aload_n 0, 1) := by decide +kernel
theorem dX6_reason_132 : decode cX6_reason 132 = .ok (.getfield 121, 3) := by decide +kernel
theorem dX6_reason_135 : decode cX6_reason 135 = .ok (.invokevirtual 93, 3) := by decide +kernel
theorem dX6_reason_138 : decode cX6_reason 138 = .ok (.ifCond .eq 7, 3) := by decide +kernel
theorem dX6_reason_141 : decode cX6_reason 141 = .ok (.iconst 0, 1) := by decide +kernel
theorem dX6_reason_142 : decode cX6_reason 142 = .ok (.goto 8, 3) := by decide +kernel
theorem dX6_reason_145 : decode cX6_reason 145 = .ok (.iconst 4, 1) := by decide +kernel
theorem dX6_reason_146 : decode cX6_reason 146 = .ok (.goto 4, 3) := by decide +kernel
theorem dX6_reason_149 : decode cX6_reason 149 = .ok (.iconst 0, 1) := by decide +kernel
theorem dX6_reason_150 : decode cX6_reason 150 = .ok (.ireturn, 1) := by decide +kernel
theorem dX6_does_0 : decode cX6_does 0 = .ok (.iload_n 1, 1) := by decide +kernel
theorem dX6_does_1 : decode cX6_does 1 = .ok (.bipush 61, 2) := by decide +kernel
theorem dX6_does_3 : decode cX6_does 3 = .ok (.if_icmp .ne 19, 3) := by decide +kernel
theorem dX6_does_6 : decode cX6_does 6 = .ok (.aload_n 0, 1) := by decide +kernel
theorem dX6_does_7 : decode cX6_does 7 = .ok (.getfield 7, 3) := by decide +kernel
theorem dX6_does_10 : decode cX6_does 10 = .ok (.aload_n 0, 1) := by decide +kernel
theorem dX6_does_11 : decode cX6_does 11 = .ok (.getfield 121, 3) := by decide +kernel
theorem dX6_does_14 : decode cX6_does 14 = .ok (.aload_n 0, 1) := by decide +kernel
theorem dX6_does_15 : decode cX6_does 15 = .ok (.getfield 124, 3) := by decide +kernel
theorem dX6_does_18 : decode cX6_does 18 = .ok (.iastore, 1) := by decide +kernel
theorem dX6_does_19 : decode cX6_does 19 = .ok (.goto 116, 3) := by decide +kernel
theorem dX6_does_22 : decode cX6_does 22 = .ok (.iload_n 1, 1) := by decide +kernel
theorem dX6_does_23 : decode cX6_does 23 = .ok (.bipush 43, 2) := by decide +kernel
theorem dX6_does_25 : decode cX6_does 25 = .ok (.if_icmp .ne 27, 3) := by decide +kernel
theorem dX6_does_28 : decode cX6_does 28 = .ok (.aload_n 0, 1) := by decide +kernel
theorem dX6_does_29 : decode cX6_does 29 = .ok (.getfield 7, 3) := by decide +kernel
theorem dX6_does_32 : decode cX6_does 32 = .ok (.aload_n 0, 1) := by decide +kernel
theorem dX6_does_33 : decode cX6_does 33 = .ok (.getfield 121, 3) := by decide +kernel
theorem dX6_does_36 : decode cX6_does 36 = .ok (.dup2, 1) := by decide +kernel
theorem dX6_does_37 : decode cX6_does 37 = .ok (.iaload, 1) := by decide +kernel
theorem dX6_does_38 : decode cX6_does 38 = .ok (.aload_n 0, 1) := by decide +kernel
theorem dX6_does_39 : decode cX6_does 39 = .ok (.getfield 7, 3) := by decide +kernel
theorem dX6_does_42 : decode cX6_does 42 = .ok (.aload_n 0, 1) := by decide +kernel
theorem dX6_does_43 : decode cX6_does 43 = .ok (.getfield 124, 3) := by decide +kernel
theorem dX6_does_46 : decode cX6_does 46 = .ok (.iaload, 1) := by decide +kernel
theorem dX6_does_47 : decode cX6_does 47 = .ok (.iadd, 1) := by decide +kernel
theorem dX6_does_48 : decode cX6_does 48 = .ok (.iastore, 1) := by decide +kernel
theorem dX6_does_49 : decode cX6_does 49 = .ok (.goto 86, 3) := by decide +kernel
theorem dX6_does_52 : decode cX6_does 52 = .ok (.iload_n 1, 1) := by decide +kernel
theorem dX6_does_53 : decode cX6_does 53 = .ok (.bipush 45, 2) := by decide +kernel
theorem dX6_does_55 : decode cX6_does 55 = .ok (.if_icmp .ne 27, 3) := by decide +kernel
theorem dX6_does_58 : decode cX6_does 58 = .ok (.aload_n 0, 1) := by decide +kernel
theorem dX6_does_59 : decode cX6_does 59 = .ok (.getfield 7, 3) := by decide +kernel
theorem dX6_does_62 : decode cX6_does 62 = .ok (.aload_n 0, 1) := by decide +kernel
theorem dX6_does_63 : decode cX6_does 63 = .ok (.getfield 121, 3) := by decide +kernel
theorem dX6_does_66 : decode cX6_does 66 = .ok (.dup2, 1) := by decide +kernel
theorem dX6_does_67 : decode cX6_does 67 = .ok (.iaload, 1) := by decide +kernel
theorem dX6_does_68 : decode cX6_does 68 = .ok (.aload_n 0, 1) := by decide +kernel
theorem dX6_does_69 : decode cX6_does 69 = .ok (.getfield 7, 3) := by decide +kernel
theorem dX6_does_72 : decode cX6_does 72 = .ok (.aload_n 0, 1) := by decide +kernel
theorem dX6_does_73 : decode cX6_does 73 = .ok (.getfield 124, 3) := by decide +kernel
theorem dX6_does_76 : decode cX6_does 76 = .ok (.iaload, 1) := by decide +kernel
theorem dX6_does_77 : decode cX6_does 77 = .ok (.isub, 1) := by decide +kernel
theorem dX6_does_78 : decode cX6_does 78 = .ok (.iastore, 1) := by decide +kernel
theorem dX6_does_79 : decode cX6_does 79 = .ok (.goto 56, 3) := by decide +kernel
theorem dX6_does_82 : decode cX6_does 82 = .ok (.iload_n 1, 1) := by decide +kernel
theorem dX6_does_83 : decode cX6_does 83 = .ok (.bipush 94, 2) := by decide +kernel
theorem dX6_does_85 : decode cX6_does 85 = .ok (.if_icmp .ne 23, 3) := by decide +kernel
theorem dX6_does_88 : decode cX6_does 88 = .ok (.aload_n 0, 1) := by decide +kernel
theorem dX6_does_89 : decode cX6_does 89 = .ok (.getfield 7, 3) := by decide +kernel
theorem dX6_does_92 : decode cX6_does 92 = .ok (.aload_n 0, 1) := by decide +kernel
theorem dX6_does_93 : decode cX6_does 93 = .ok (.getfield 121, 3) := by decide +kernel
theorem dX6_does_96 : decode cX6_does 96 = .ok (.aload_n 0, 1) := by decide +kernel
theorem dX6_does_97 : decode cX6_does 97 = .ok (.aload_n 0, 1) := by decide +kernel
theorem dX6_does_98 : decode cX6_does 98 = .ok (.getfield 121, 3) := by decide +kernel
theorem dX6_does_101 : decode cX6_does 101 = .ok (.invokevirtual 81, 3) := by decide +kernel
theorem dX6_does_104 : decode cX6_does 104 = .ok (.iastore, 1) := by decide +kernel
theorem dX6_does_105 : decode cX6_does 105 = .ok (.goto 30, 3) := by decide +kernel
theorem dX6_does_108 : decode cX6_does 108 = .ok (.iload_n 1, 1) := by decide +kernel
theorem dX6_does_109 : decode cX6_does 109 = .ok (.bipush 115, 2) := by decide +kernel
theorem dX6_does_111 : decode cX6_does 111 = .ok (.if_icmp .ne 15, 3) := by decide +kernel
theorem dX6_does_114 : decode cX6_does 114 = .ok (.aload_n 0, 1) := by decide +kernel
theorem dX6_does_115 : decode cX6_does 115 = .ok (.aload_n 0, 1) := by decide +kernel
theorem dX6_does_116 : decode cX6_does 116 = .ok (.getfield 121, 3) := by decide +kernel
theorem dX6_does_119 : decode cX6_does 119 = .ok (.invokevirtual 90, 3) := by decide +kernel
theorem dX6_does_122 : decode cX6_does 122 = .ok (.pop, 1) := by decide +kernel
theorem dX6_does_123 : decode cX6_does 123 = .ok (.goto 12, 3) := by decide +kernel
theorem dX6_does_126 : decode cX6_does 126 = .ok (.aload_n 0, 1) := by decide +kernel
theorem dX6_does_127 : decode cX6_does 127 = .ok (.aload_n 0, 1) := by decide +kernel
theorem dX6_does_128 : decode cX6_does 128 = .ok (.getfield 121, 3) := by decide +kernel
theorem dX6_does_131 : decode cX6_does 131 = .ok (.invokevirtual 96, 3) := by decide +kernel
theorem dX6_does_134 : decode cX6_does 134 = .ok (.pop, 1) := by decide +kernel
theorem dX6_does_135 : decode cX6_does 135 = .ok (.return_, 1) := by decide +kernel
theorem dX6_work_0 : decode cX6_work 0 = .ok (.aload_n 0, 1) := by decide +kernel
theorem dX6_work_1 : decode cX6_work 1 = .ok (.aload_n 0, 1) := by decide +kernel
theorem dX6_work_2 : decode cX6_work 2 = .ok (.invokevirtual 131, 3) := by decide +kernel
theorem dX6_work_5 : decode cX6_work 5 = .ok (.iconst 1, 1) := by decide +kernel
theorem dX6_work_6 : decode cX6_work 6 = .ok (.iconst 1, 1) := by decide +kernel
theorem dX6_work_7 : decode cX6_work 7 = .ok (.invokevirtual 68, 3) := by decide +kernel
theorem dX6_work_10 : decode cX6_work 10 = .ok (.ifCond .ne 5, 3) := by decide +kernel
theorem dX6_work_13 : decode cX6_work 13 = .ok (.iconst 0, 1) := by decide +kernel
theorem dX6_work_14 : decode cX6_work 14 = .ok (.ireturn, 1) := by decide +kernel
theorem dX6_work_15 : decode cX6_work 15 = .ok (.aload_n 0, 1) := by decide +kernel
theorem dX6_work_16 : decode cX6_work 16 = .ok (.invokevirtual 72, 3) := by decide +kernel
theorem dX6_work_19 : decode cX6_work 19 = .ok (.iconst 0, 1) := by decide +kernel
theorem dX6_work_20 : decode cX6_work 20 = .ok (.istore_n 1, 1) := by decide +kernel
theorem dX6_work_21 : decode cX6_work 21 = .ok (.iconst 0, 1) := by decide +kernel
theorem dX6_work_22 : decode cX6_work 22 = .ok (.istore_n 2, 1) := by decide +kernel
theorem dX6_work_23 : decode cX6_work 23 = .ok (.aload_n 0, 1) := by decide +kernel
theorem dX6_work_24 : decode cX6_work 24 = .ok (.iconst 0, 1) := by decide +kernel
theorem dX6_work_25 : decode cX6_work 25 = .ok (.putfield 108, 3) := by decide +kernel
theorem dX6_work_28 : decode cX6_work 28 = .ok (.iload_n 2, 1) := by decide +kernel
theorem dX6_work_29 : decode cX6_work 29 = .ok (.ifCond .ne 50, 3) := by decide +kernel
theorem dX6_work_32 : decode cX6_work 32 = .ok (.aload_n 0, 1) := by decide +kernel
theorem dX6_work_33 : decode cX6_work 33 = .ok (.getfield 108, 3) := by decide +kernel
theorem dX6_work_36 : decode cX6_work 36 = .ok (.aload_n 0, 1) := by decide +kernel
theorem dX6_work_37 : decode cX6_work 37 = .ok (.getfield 105, 3) := by decide +kernel
theorem dX6_work_40 : decode cX6_work 40 = .ok (.if_icmp .ge 39, 3) := by decide +kernel
theorem dX6_work_43 : decode cX6_work 43 = .ok (.aload_n 0, 1) := by decide +kernel
theorem dX6_work_44 : decode cX6_work 44 = .ok (.invokevirtual 127, 3) := by decide +kernel
theorem dX6_work_47 : decode cX6_work 47 = .ok (.istore_n 3, 1) := by decide +kernel
theorem dX6_work_48 : decode cX6_work 48 = .ok (.aload_n 0, 1) := by decide +kernel
theorem dX6_work_49 : decode cX6_work 49 = .ok (.iload_n 3, 1) := by decide +kernel
theorem dX6_work_50 : decode cX6_work 50 = .ok (.invokevirtual 135, 3) := by decide +kernel
theorem dX6_work_53 : decode cX6_work 53 = .ok (.istore_n 2, 1) := by decide +kernel
theorem dX6_work_54 : decode cX6_work 54 = .ok (.iload_n 2, 1) := by decide +kernel
theorem dX6_work_55 : decode cX6_work 55 = .ok (.ifCond .ne 11, 3) := by decide +kernel
theorem dX6_work_58 : decode cX6_work 58 = .ok (.aload_n 0, 1) := by decide +kernel
theorem dX6_work_59 : decode cX6_work 59 = .ok (.iload_n 3, 1) := by decide +kernel
theorem dX6_work_60 : decode cX6_work 60 = .ok (.invokevirtual 138, 3) := by decide +kernel
theorem dX6_work_63 : decode cX6_work 63 = .ok (.iinc 1 1, 3) := by decide +kernel
theorem dX6_work_66 : decode cX6_work 66 = .ok (.aload_n 0, 1) := by decide +kernel
theorem dX6_work_67 : decode cX6_work 67 = .ok (.dup, 1) := by decide +kernel
theorem dX6_work_68 : decode cX6_work 68 = .ok (.getfield 108, 3) := by decide +kernel
theorem dX6_work_71 : decode cX6_work 71 = .ok (.iconst 1, 1) := by decide +kernel
theorem dX6_work_72 : decode cX6_work 72 = .ok (.iadd, 1) := by decide +kernel
theorem dX6_work_73 : decode cX6_work 73 = .ok (.putfield 108, 3) := by decide +kernel
theorem dX6_work_76 : decode cX6_work 76 = .ok (.goto (-48), 3) := by decide +kernel
theorem dX6_work_79 : decode cX6_work 79 = .ok (.aload_n 0, 1) := by decide +kernel
theorem dX6_work_80 : decode cX6_work 80 = .ok (.getfield 7, 3) := by decide +kernel
theorem dX6_work_83 : decode cX6_work 83 = .ok (.bipush 71, 2) := by decide +kernel
theorem dX6_work_85 : decode cX6_work 85 = .ok (.iload_n 2, 1) := by decide +kernel
theorem dX6_work_86 : decode cX6_work 86 = .ok (.ifCond .le 7, 3) := by decide +kernel
theorem dX6_work_89 : decode cX6_work 89 = .ok (.iconst 1, 1) := by decide +kernel
theorem dX6_work_90 : decode cX6_work 90 = .ok (.goto 4, 3) := by decide +kernel
theorem dX6_work_93 : decode cX6_work 93 = .ok (.iconst 0, 1) := by decide +kernel
theorem dX6_work_94 : decode cX6_work 94 = .ok (.iastore, 1) := by decide +kernel
theorem dX6_work_95 : decode cX6_work 95 = .ok (.aload_n 0, 1) := by decide +kernel
theorem dX6_work_96 : decode cX6_work 96 = .ok (.getfield 7, 3) := by decide +kernel
theorem dX6_work_99 : decode cX6_work 99 = .ok (.bipush 72, 2) := by decide +kernel
theorem dX6_work_101 : decode cX6_work 101 = .ok (.iload_n 1, 1) := by decide +kernel
theorem dX6_work_102 : decode cX6_work 102 = .ok (.iastore, 1) := by decide +kernel
theorem dX6_work_103 : decode cX6_work 103 = .ok (.aload_n 0, 1) := by decide +kernel
theorem dX6_work_104 : decode cX6_work 104 = .ok (.getfield 7, 3) := by decide +kernel
theorem dX6_work_107 : decode cX6_work 107 = .ok (.bipush 73, 2) := by decide +kernel
theorem dX6_work_109 : decode cX6_work 109 = .ok (.iload_n 2, 1) := by decide +kernel
theorem dX6_work_110 : decode cX6_work 110 = .ok (.iastore, 1) := by decide +kernel
theorem dX6_work_111 : decode cX6_work 111 = .ok (.aload_n 0, 1) := by decide +kernel
theorem dX6_work_112 : decode cX6_work 112 = .ok (.iconst 0, 1) := by decide +kernel
theorem dX6_work_113 : decode cX6_work 113 = .ok (.putfield 105, 3) := by decide +kernel
theorem dX6_work_116 : decode cX6_work 116 = .ok (.iload_n 1, 1) := by decide +kernel
theorem dX6_work_117 : decode cX6_work 117 = .ok (.ireturn, 1) := by decide +kernel
theorem dX6_hasStopped_0 : decode cX6_hasStopped 0 = .ok (.aload_n 0, 1) := by decide +kernel
theorem dX6_hasStopped_1 : decode cX6_hasStopped 1 = .ok (.iconst 0, 1) := by decide +kernel
theorem dX6_hasStopped_2 : decode cX6_hasStopped 2 = .ok (.putfield 22, 3) := by decide +kernel
theorem dX6_hasStopped_5 : decode cX6_hasStopped 5 = .ok (.aload_n 0, 1) := by decide +kernel
theorem dX6_hasStopped_6 : decode cX6_hasStopped 6 = .ok (.getfield 7, 3) := by decide +kernel
theorem dX6_hasStopped_9 : decode cX6_hasStopped 9 = .ok (.bipush 71, 2) := by decide +kernel
theorem dX6_hasStopped_11 : decode cX6_hasStopped 11 = .ok (.iaload, 1) := by decide +kernel
theorem dX6_hasStopped_12 : decode cX6_hasStopped 12 = .ok (.iconst 1, 1) := by decide +kernel
theorem dX6_hasStopped_13 : decode cX6_hasStopped 13 = .ok (.if_icmp .ne 7, 3) := by decide +kernel
theorem dX6_hasStopped_16 : decode cX6_hasStopped 16 = .ok (.iconst 1, 1) := by decide +kernel
theorem dX6_hasStopped_17 : decode cX6_hasStopped 17 = .ok (.goto 4, 3) := by decide +kernel
theorem dX6_hasStopped_20 : decode cX6_hasStopped 20 = .ok (.iconst 0, 1) := by decide +kernel
theorem dX6_hasStopped_21 : decode cX6_hasStopped 21 = .ok (.ireturn, 1) := by decide +kernel
theorem dX6_stoppedPart_0 : decode cX6_stoppedPart 0 = .ok (.aload_n 0, 1) := by decide +kernel
theorem dX6_stoppedPart_1 : decode cX6_stoppedPart 1 = .ok (.aload_n 0, 1) := by decide +kernel
theorem dX6_stoppedPart_2 : decode cX6_stoppedPart 2 = .ok (.getfield 7, 3) := by decide +kernel
theorem dX6_stoppedPart_5 : decode cX6_stoppedPart 5 = .ok (.bipush 71, 2) := by decide +kernel
theorem dX6_stoppedPart_7 : decode cX6_stoppedPart 7 = .ok (.iaload, 1) := by decide +kernel
theorem dX6_stoppedPart_8 : decode cX6_stoppedPart 8 = .ok (.iconst 1, 1) := by decide +kernel
theorem dX6_stoppedPart_9 : decode cX6_stoppedPart 9 = .ok (.if_icmp .ne 7, 3) := by decide +kernel
theorem dX6_stoppedPart_12 : decode cX6_stoppedPart 12 = .ok (.iconst 1, 1) := by decide +kernel
theorem dX6_stoppedPart_13 : decode cX6_stoppedPart 13 = .ok (.goto 4, 3) := by decide +kernel
theorem dX6_stoppedPart_16 : decode cX6_stoppedPart 16 = .ok (.iconst 0, 1) := by decide +kernel
theorem dX6_stoppedPart_17 : decode cX6_stoppedPart 17 = .ok (.iconst 1, 1) := by decide +kernel
theorem dX6_stoppedPart_18 : decode cX6_stoppedPart 18 = .ok (.iconst 1, 1) := by decide +kernel
theorem dX6_stoppedPart_19 : decode cX6_stoppedPart 19 = .ok (.invokevirtual 68, 3) := by decide +kernel
theorem dX6_stoppedPart_22 : decode cX6_stoppedPart 22 = .ok (.ifCond .eq 13, 3) := by decide +kernel
theorem dX6_stoppedPart_25 : decode cX6_stoppedPart 25 = .ok (.aload_n 0, 1) := by decide +kernel
theorem dX6_stoppedPart_26 : decode cX6_stoppedPart 26 = .ok (.getfield 7, 3) := by decide +kernel
theorem dX6_stoppedPart_29 : decode cX6_stoppedPart 29 = .ok (.bipush 72, 2) := by decide +kernel
theorem dX6_stoppedPart_31 : decode cX6_stoppedPart 31 = .ok (.iaload, 1) := by decide +kernel
theorem dX6_stoppedPart_32 : decode cX6_stoppedPart 32 = .ok (.goto 4, 3) := by decide +kernel
theorem dX6_stoppedPart_35 : decode cX6_stoppedPart 35 = .ok (.iconst 0, 1) := by decide +kernel
theorem dX6_stoppedPart_36 : decode cX6_stoppedPart 36 = .ok (.ireturn, 1) := by decide +kernel
theorem dX6_whyStopped_0 : decode cX6_whyStopped 0 = .ok (.aload_n 0, 1) := by decide +kernel
theorem dX6_whyStopped_1 : decode cX6_whyStopped 1 = .ok (.aload_n 0, 1) := by decide +kernel
theorem dX6_whyStopped_2 : decode cX6_whyStopped 2 = .ok (.getfield 7, 3) := by decide +kernel
theorem dX6_whyStopped_5 : decode cX6_whyStopped 5 = .ok (.bipush 71, 2) := by decide +kernel
theorem dX6_whyStopped_7 : decode cX6_whyStopped 7 = .ok (.iaload, 1) := by decide +kernel
theorem dX6_whyStopped_8 : decode cX6_whyStopped 8 = .ok (.iconst 1, 1) := by decide +kernel
theorem dX6_whyStopped_9 : decode cX6_whyStopped 9 = .ok (.if_icmp .ne 7, 3) := by decide +kernel
theorem dX6_whyStopped_12 : decode cX6_whyStopped 12 = .ok (.iconst 1, 1) := by decide +kernel
theorem dX6_whyStopped_13 : decode cX6_whyStopped 13 = .ok (.goto 4, 3) := by decide +kernel
theorem dX6_whyStopped_16 : decode cX6_whyStopped 16 = .ok (.iconst 0, 1) := by decide +kernel
theorem dX6_whyStopped_17 : decode cX6_whyStopped 17 = .ok (.iconst 1, 1) := by decide +kernel
theorem dX6_whyStopped_18 : decode cX6_whyStopped 18 = .ok (.iconst 1, 1) := by decide +kernel
theorem dX6_whyStopped_19 : decode cX6_whyStopped 19 = .ok (.invokevirtual 68, 3) := by decide +kernel
theorem dX6_whyStopped_22 : decode cX6_whyStopped 22 = .ok (.ifCond .eq 13, 3) := by decide +kernel
theorem dX6_whyStopped_25 : decode cX6_whyStopped 25 = .ok (.aload_n 0, 1) := by decide +kernel
theorem dX6_whyStopped_26 : decode cX6_whyStopped 26 = .ok (.getfield 7, 3) := by decide +kernel
theorem dX6_whyStopped_29 : decode cX6_whyStopped 29 = .ok (.bipush 73, 2) := by decide +kernel
theorem dX6_whyStopped_31 : decode cX6_whyStopped 31 = .ok (.iaload, 1) := by decide +kernel
theorem dX6_whyStopped_32 : decode cX6_whyStopped 32 = .ok (.goto 4, 3) := by decide +kernel
theorem dX6_whyStopped_35 : decode cX6_whyStopped 35 = .ok (.iconst 0, 1) := by decide +kernel
theorem dX6_whyStopped_36 : decode cX6_whyStopped 36 = .ok (.ireturn, 1) := by decide +kernel
theorem dX6_sum_0 : decode cX6_sum 0 = .ok (.iconst 0, 1) := by decide +kernel
theorem dX6_sum_1 : decode cX6_sum 1 = .ok (.istore_n 1, 1) := by decide +kernel
theorem dX6_sum_2 : decode cX6_sum 2 = .ok (.iconst 0, 1) := by decide +kernel
theorem dX6_sum_3 : decode cX6_sum 3 = .ok (.istore_n 2, 1) := by decide +kernel
theorem dX6_sum_4 : decode cX6_sum 4 = .ok (.iload_n 2, 1) := by decide +kernel
theorem dX6_sum_5 : decode cX6_sum 5 = .ok (.bipush 6, 2) := by decide +kernel
theorem dX6_sum_7 : decode cX6_sum 7 = .ok (.if_icmp .ge 18, 3) := by decide +kernel
theorem dX6_sum_10 : decode cX6_sum 10 = .ok (.iload_n 1, 1) := by decide +kernel
theorem dX6_sum_11 : decode cX6_sum 11 = .ok (.aload_n 0, 1) := by decide +kernel
theorem dX6_sum_12 : decode cX6_sum 12 = .ok (.getfield 7, 3) := by decide +kernel
theorem dX6_sum_15 : decode cX6_sum 15 = .ok (.iload_n 2, 1) := by decide +kernel
theorem dX6_sum_16 : decode cX6_sum 16 = .ok (.iaload, 1) := by decide +kernel
theorem dX6_sum_17 : decode cX6_sum 17 = .ok (.iadd, 1) := by decide +kernel
theorem dX6_sum_18 : decode cX6_sum 18 = .ok (.istore_n 1, 1) := by decide +kernel
theorem dX6_sum_19 : decode cX6_sum 19 = .ok (.iinc 2 1, 3) := by decide +kernel
theorem dX6_sum_22 : decode cX6_sum 22 = .ok (.goto (-18), 3) := by decide +kernel
theorem dX6_sum_25 : decode cX6_sum 25 = .ok (.iload_n 1, 1) := by decide +kernel
theorem dX6_sum_26 : decode cX6_sum 26 = .ok (.ireturn, 1) := by decide +kernel
theorem dX6_undo_0 : decode cX6_undo 0 = .ok (.aload_n 0, 1) := by decide +kernel
theorem dX6_undo_1 : decode cX6_undo 1 = .ok (.aload_n 0, 1) := by decide +kernel
theorem dX6_undo_2 : decode cX6_undo 2 = .ok (.getfield 26, 3) := by decide +kernel
theorem dX6_undo_5 : decode cX6_undo 5 = .ok (.ifCond .le 7, 3) := by decide +kernel
theorem dX6_undo_8 : decode cX6_undo 8 = .ok (.iconst 1, 1) := by decide +kernel
theorem dX6_undo_9 : decode cX6_undo 9 = .ok (.goto 4, 3) := by decide +kernel
theorem dX6_undo_12 : decode cX6_undo 12 = .ok (.iconst 0, 1) := by decide +kernel
theorem dX6_undo_13 : decode cX6_undo 13 = .ok (.iconst 1, 1) := by decide +kernel
theorem dX6_undo_14 : decode cX6_undo 14 = .ok (.iconst 1, 1) := by decide +kernel
theorem dX6_undo_15 : decode cX6_undo 15 = .ok (.invokevirtual 68, 3) := by decide +kernel
theorem dX6_undo_18 : decode cX6_undo 18 = .ok (.ifCond .ne 5, 3) := by decide +kernel
theorem dX6_undo_21 : decode cX6_undo 21 = .ok (.iconst 0, 1) := by decide +kernel
theorem dX6_undo_22 : decode cX6_undo 22 = .ok (.ireturn, 1) := by decide +kernel
theorem dX6_undo_23 : decode cX6_undo 23 = .ok (.aload_n 0, 1) := by decide +kernel
theorem dX6_undo_24 : decode cX6_undo 24 = .ok (.aload_n 0, 1) := by decide +kernel
theorem dX6_undo_25 : decode cX6_undo 25 = .ok (.getfield 26, 3) := by decide +kernel
theorem dX6_undo_28 : decode cX6_undo 28 = .ok (.iconst 0, 1) := by decide +kernel
theorem dX6_undo_29 : decode cX6_undo 29 = .ok (.invokevirtual 29, 3) := by decide +kernel
theorem dX6_undo_32 : decode cX6_undo 32 = .ok (.aload_n 0, 1) := by decide +kernel
theorem dX6_undo_33 : decode cX6_undo 33 = .ok (.dup, 1) := by decide +kernel
theorem dX6_undo_34 : decode cX6_undo 34 = .ok (.getfield 26, 3) := by decide +kernel
theorem dX6_undo_37 : decode cX6_undo 37 = .ok (.iconst 1, 1) := by decide +kernel
theorem dX6_undo_38 : decode cX6_undo 38 = .ok (.isub, 1) := by decide +kernel
theorem dX6_undo_39 : decode cX6_undo 39 = .ok (.putfield 26, 3) := by decide +kernel
theorem dX6_undo_42 : decode cX6_undo 42 = .ok (.aload_n 0, 1) := by decide +kernel
theorem dX6_undo_43 : decode cX6_undo 43 = .ok (.getfield 26, 3) := by decide +kernel
theorem dX6_undo_46 : decode cX6_undo 46 = .ok (.ireturn, 1) := by decide +kernel
theorem dX6_keep_0 : decode cX6_keep 0 = .ok (.aload_n 0, 1) := by decide +kernel
theorem dX6_keep_1 : decode cX6_keep 1 = .ok (.iconst 0, 1) := by decide +kernel
theorem dX6_keep_2 : decode cX6_keep 2 = .ok (.putfield 22, 3) := by decide +kernel
theorem dX6_keep_5 : decode cX6_keep 5 = .ok (.aload_n 0, 1) := by decide +kernel
theorem dX6_keep_6 : decode cX6_keep 6 = .ok (.iconst 0, 1) := by decide +kernel
theorem dX6_keep_7 : decode cX6_keep 7 = .ok (.bipush 6, 2) := by decide +kernel
theorem dX6_keep_9 : decode cX6_keep 9 = .ok (.invokevirtual 29, 3) := by decide +kernel
theorem dX6_keep_12 : decode cX6_keep 12 = .ok (.aload_n 0, 1) := by decide +kernel
theorem dX6_keep_13 : decode cX6_keep 13 = .ok (.iconst 1, 1) := by decide +kernel
theorem dX6_keep_14 : decode cX6_keep 14 = .ok (.putfield 142, 3) := by decide +kernel
theorem dX6_keep_17 : decode cX6_keep 17 = .ok (.aload_n 0, 1) := by decide +kernel
theorem dX6_keep_18 : decode cX6_keep 18 = .ok (.invokevirtual 146, 3) := by decide +kernel
theorem dX6_keep_21 : decode cX6_keep 21 = .ok (.ireturn, 1) := by decide +kernel
theorem dX6_restore_0 : decode cX6_restore 0 = .ok (.aload_n 0, 1) := by decide +kernel
theorem dX6_restore_1 : decode cX6_restore 1 = .ok (.aload_n 0, 1) := by decide +kernel
theorem dX6_restore_2 : decode cX6_restore 2 = .ok (.getfield 142, 3) := by decide +kernel
theorem dX6_restore_5 : decode cX6_restore 5 = .ok (.iconst 1, 1) := by decide +kernel
theorem dX6_restore_6 : decode cX6_restore 6 = .ok (.iconst 1, 1) := by decide +kernel
theorem dX6_restore_7 : decode cX6_restore 7 = .ok (.invokevirtual 68, 3) := by decide +kernel
theorem dX6_restore_10 : decode cX6_restore 10 = .ok (.ifCond .ne 5, 3) := by decide +kernel
theorem dX6_restore_13 : decode cX6_restore 13 = .ok (.iconst 0, 1) := by decide +kernel
theorem dX6_restore_14 : decode cX6_restore 14 = .ok (.ireturn, 1) := by decide +kernel
theorem dX6_restore_15 : decode cX6_restore 15 = .ok (.aload_n 0, 1) := by decide +kernel
theorem dX6_restore_16 : decode cX6_restore 16 = .ok (.invokevirtual 72, 3) := by decide +kernel
theorem dX6_restore_19 : decode cX6_restore 19 = .ok (.aload_n 0, 1) := by decide +kernel
theorem dX6_restore_20 : decode cX6_restore 20 = .ok (.bipush 6, 2) := by decide +kernel
theorem dX6_restore_22 : decode cX6_restore 22 = .ok (.iconst 0, 1) := by decide +kernel
theorem dX6_restore_23 : decode cX6_restore 23 = .ok (.invokevirtual 29, 3) := by decide +kernel
theorem dX6_restore_26 : decode cX6_restore 26 = .ok (.aload_n 0, 1) := by decide +kernel
theorem dX6_restore_27 : decode cX6_restore 27 = .ok (.invokevirtual 146, 3) := by decide +kernel
theorem dX6_restore_30 : decode cX6_restore 30 = .ok (.ireturn, 1) := by decide +kernel
theorem dX6_savedStates_0 : decode cX6_savedStates 0 = .ok (.aload_n 0, 1) := by decide +kernel
theorem dX6_savedStates_1 : decode cX6_savedStates 1 = .ok (.iconst 0, 1) := by decide +kernel
theorem dX6_savedStates_2 : decode cX6_savedStates 2 = .ok (.putfield 22, 3) := by decide +kernel
theorem dX6_savedStates_5 : decode cX6_savedStates 5 = .ok (.aload_n 0, 1) := by decide +kernel
theorem dX6_savedStates_6 : decode cX6_savedStates 6 = .ok (.getfield 26, 3) := by decide +kernel
theorem dX6_savedStates_9 : decode cX6_savedStates 9 = .ok (.ireturn, 1) := by decide +kernel
theorem dX6_worthOf_0 : decode cX6_worthOf 0 = .ok (.aload_n 0, 1) := by decide +kernel
theorem dX6_worthOf_1 : decode cX6_worthOf 1 = .ok (.iload_n 1, 1) := by decide +kernel
theorem dX6_worthOf_2 : decode cX6_worthOf 2 = .ok (.iconst 0, 1) := by decide +kernel
theorem dX6_worthOf_3 : decode cX6_worthOf 3 = .ok (.bipush 17, 2) := by decide +kernel
theorem dX6_worthOf_5 : decode cX6_worthOf 5 = .ok (.invokestatic 57, 3) := by decide +kernel
theorem dX6_worthOf_8 : decode cX6_worthOf 8 = .ok (.iconst 1, 1) := by decide +kernel
theorem dX6_worthOf_9 : decode cX6_worthOf 9 = .ok (.iconst 1, 1) := by decide +kernel
theorem dX6_worthOf_10 : decode cX6_worthOf 10 = .ok (.invokevirtual 68, 3) := by decide +kernel
theorem dX6_worthOf_13 : decode cX6_worthOf 13 = .ok (.ifCond .eq 10, 3) := by decide +kernel
theorem dX6_worthOf_16 : decode cX6_worthOf 16 = .ok (.iload_n 1, 1) := by decide +kernel
theorem dX6_worthOf_17 : decode cX6_worthOf 17 = .ok (.invokestatic 33, 3) := by decide +kernel
theorem dX6_worthOf_20 : decode cX6_worthOf 20 = .ok (.goto 4, 3) := by decide +kernel
theorem dX6_worthOf_23 : decode cX6_worthOf 23 = .ok (.iconst 0, 1) := by decide +kernel
theorem dX6_worthOf_24 : decode cX6_worthOf 24 = .ok (.ireturn, 1) := by decide +kernel
theorem dX6_worthOfSet_0 : decode cX6_worthOfSet 0 = .ok (.aload_n 0, 1) := by decide +kernel
theorem dX6_worthOfSet_1 : decode cX6_worthOfSet 1 = .ok (.iload_n 1, 1) := by decide +kernel
theorem dX6_worthOfSet_2 : decode cX6_worthOfSet 2 = .ok (.iconst 0, 1) := by decide +kernel
theorem dX6_worthOfSet_3 : decode cX6_worthOfSet 3 = .ok (.ldc 149, 2) := by decide +kernel
theorem dX6_worthOfSet_5 : decode cX6_worthOfSet 5 = .ok (.invokestatic 57, 3) := by decide +kernel
theorem dX6_worthOfSet_8 : decode cX6_worthOfSet 8 = .ok (.iconst 1, 1) := by decide +kernel
theorem dX6_worthOfSet_9 : decode cX6_worthOfSet 9 = .ok (.iconst 1, 1) := by decide +kernel
theorem dX6_worthOfSet_10 : decode cX6_worthOfSet 10 = .ok (.invokevirtual 68, 3) := by decide +kernel
theorem dX6_worthOfSet_13 : decode cX6_worthOfSet 13 = .ok (.ifCond .eq 10, 3) := by decide +kernel
theorem dX6_worthOfSet_16 : decode cX6_worthOfSet 16 = .ok (.iload_n 1, 1) := by decide +kernel
theorem dX6_worthOfSet_17 : decode cX6_worthOfSet 17 = .ok (.invokestatic 37, 3) := by decide +kernel
theorem dX6_worthOfSet_20 : decode cX6_worthOfSet 20 = .ok (.goto 4, 3) := by decide +kernel
theorem dX6_worthOfSet_23 : decode cX6_worthOfSet 23 = .ok (.iconst 0, 1) := by decide +kernel
theorem dX6_worthOfSet_24 : decode cX6_worthOfSet 24 = .ok (.ireturn, 1) := by decide +kernel
theorem dX6_say_0 : decode cX6_say 0 = .ok (.aload_n 0, 1) := by decide +kernel
theorem dX6_say_1 : decode cX6_say 1 = .ok (.iload_n 1, 1) := by decide +kernel
theorem dX6_say_2 : decode cX6_say 2 = .ok (.invokestatic 65, 3) := by decide +kernel
theorem dX6_say_5 : decode cX6_say 5 = .ok (.iconst 1, 1) := by decide +kernel
theorem dX6_say_6 : decode cX6_say 6 = .ok (.iconst 1, 1) := by decide +kernel
theorem dX6_say_7 : decode cX6_say 7 = .ok (.invokevirtual 68, 3) := by decide +kernel
theorem dX6_say_10 : decode cX6_say 10 = .ok (.ifCond .eq 10, 3) := by decide +kernel
theorem dX6_say_13 : decode cX6_say 13 = .ok (.iload_n 1, 1) := by decide +kernel
theorem dX6_say_14 : decode cX6_say 14 = .ok (.invokestatic 40, 3) := by decide +kernel
theorem dX6_say_17 : decode cX6_say 17 = .ok (.goto 4, 3) := by decide +kernel
theorem dX6_say_20 : decode cX6_say 20 = .ok (.iconst 0, 1) := by decide +kernel
theorem dX6_say_21 : decode cX6_say 21 = .ok (.ireturn, 1) := by decide +kernel
theorem dX6_sayByCounting_0 : decode cX6_sayByCounting 0 = .ok (.aload_n 0, 1) := by decide +kernel
theorem dX6_sayByCounting_1 : decode cX6_sayByCounting 1 = .ok (.iload_n 1, 1) := by decide +kernel
theorem dX6_sayByCounting_2 : decode cX6_sayByCounting 2 = .ok (.invokestatic 65, 3) := by decide +kernel
theorem dX6_sayByCounting_5 : decode cX6_sayByCounting 5 = .ok (.iconst 1, 1) := by decide +kernel
theorem dX6_sayByCounting_6 : decode cX6_sayByCounting 6 = .ok (.iconst 1, 1) := by decide +kernel
theorem dX6_sayByCounting_7 : decode cX6_sayByCounting 7 = .ok (.invokevirtual 68, 3) := by decide +kernel
theorem dX6_sayByCounting_10 : decode cX6_sayByCounting 10 = .ok (.ifCond .eq 10, 3) := by decide +kernel
theorem dX6_sayByCounting_13 : decode cX6_sayByCounting 13 = .ok (.iload_n 1, 1) := by decide +kernel
theorem dX6_sayByCounting_14 : decode cX6_sayByCounting 14 = .ok (.invokestatic 40, 3) := by decide +kernel
theorem dX6_sayByCounting_17 : decode cX6_sayByCounting 17 = .ok (.goto 4, 3) := by decide +kernel
theorem dX6_sayByCounting_20 : decode cX6_sayByCounting 20 = .ok (.iconst 0, 1) := by decide +kernel
theorem dX6_sayByCounting_21 : decode cX6_sayByCounting 21 = .ok (.ireturn, 1) := by decide +kernel
theorem dX6_fullSet_0 : decode cX6_fullSet 0 = .ok (.aload_n 0, 1) := by decide +kernel
theorem dX6_fullSet_1 : decode cX6_fullSet 1 = .ok (.iload_n 1, 1) := by decide +kernel
theorem dX6_fullSet_2 : decode cX6_fullSet 2 = .ok (.invokestatic 65, 3) := by decide +kernel
theorem dX6_fullSet_5 : decode cX6_fullSet 5 = .ok (.iconst 1, 1) := by decide +kernel
theorem dX6_fullSet_6 : decode cX6_fullSet 6 = .ok (.iconst 1, 1) := by decide +kernel
theorem dX6_fullSet_7 : decode cX6_fullSet 7 = .ok (.invokevirtual 68, 3) := by decide +kernel
theorem dX6_fullSet_10 : decode cX6_fullSet 10 = .ok (.ifCond .eq 10, 3) := by decide +kernel
theorem dX6_fullSet_13 : decode cX6_fullSet 13 = .ok (.iload_n 1, 1) := by decide +kernel
theorem dX6_fullSet_14 : decode cX6_fullSet 14 = .ok (.invokestatic 150, 3) := by decide +kernel
theorem dX6_fullSet_17 : decode cX6_fullSet 17 = .ok (.goto 4, 3) := by decide +kernel
theorem dX6_fullSet_20 : decode cX6_fullSet 20 = .ok (.iconst 0, 1) := by decide +kernel
theorem dX6_fullSet_21 : decode cX6_fullSet 21 = .ok (.ireturn, 1) := by decide +kernel
theorem dX6_ways_0 : decode cX6_ways 0 = .ok (.aload_n 0, 1) := by decide +kernel
theorem dX6_ways_1 : decode cX6_ways 1 = .ok (.iload_n 1, 1) := by decide +kernel
theorem dX6_ways_2 : decode cX6_ways 2 = .ok (.invokestatic 65, 3) := by decide +kernel
theorem dX6_ways_5 : decode cX6_ways 5 = .ok (.iconst 1, 1) := by decide +kernel
theorem dX6_ways_6 : decode cX6_ways 6 = .ok (.iconst 1, 1) := by decide +kernel
theorem dX6_ways_7 : decode cX6_ways 7 = .ok (.invokevirtual 68, 3) := by decide +kernel
theorem dX6_ways_10 : decode cX6_ways 10 = .ok (.ifCond .eq 10, 3) := by decide +kernel
theorem dX6_ways_13 : decode cX6_ways 13 = .ok (.iload_n 1, 1) := by decide +kernel
theorem dX6_ways_14 : decode cX6_ways 14 = .ok (.invokestatic 153, 3) := by decide +kernel
theorem dX6_ways_17 : decode cX6_ways 17 = .ok (.goto 4, 3) := by decide +kernel
theorem dX6_ways_20 : decode cX6_ways 20 = .ok (.iconst 0, 1) := by decide +kernel
theorem dX6_ways_21 : decode cX6_ways 21 = .ok (.ireturn, 1) := by decide +kernel
theorem dX6_waysByGaps_0 : decode cX6_waysByGaps 0 = .ok (.aload_n 0, 1) := by decide +kernel
theorem dX6_waysByGaps_1 : decode cX6_waysByGaps 1 = .ok (.iload_n 1, 1) := by decide +kernel
theorem dX6_waysByGaps_2 : decode cX6_waysByGaps 2 = .ok (.invokestatic 65, 3) := by decide +kernel
theorem dX6_waysByGaps_5 : decode cX6_waysByGaps 5 = .ok (.iconst 1, 1) := by decide +kernel
theorem dX6_waysByGaps_6 : decode cX6_waysByGaps 6 = .ok (.iconst 1, 1) := by decide +kernel
theorem dX6_waysByGaps_7 : decode cX6_waysByGaps 7 = .ok (.invokevirtual 68, 3) := by decide +kernel
theorem dX6_waysByGaps_10 : decode cX6_waysByGaps 10 = .ok (.ifCond .eq 10, 3) := by decide +kernel
theorem dX6_waysByGaps_13 : decode cX6_waysByGaps 13 = .ok (.iload_n 1, 1) := by decide +kernel
theorem dX6_waysByGaps_14 : decode cX6_waysByGaps 14 = .ok (.invokestatic 153, 3) := by decide +kernel
theorem dX6_waysByGaps_17 : decode cX6_waysByGaps 17 = .ok (.goto 4, 3) := by decide +kernel
theorem dX6_waysByGaps_20 : decode cX6_waysByGaps 20 = .ok (.iconst 0, 1) := by decide +kernel
theorem dX6_waysByGaps_21 : decode cX6_waysByGaps 21 = .ok (.ireturn, 1) := by decide +kernel
theorem dX6_spokenLength_0 : decode cX6_spokenLength 0 = .ok (.aload_n 0, 1) := by decide +kernel
theorem dX6_spokenLength_1 : decode cX6_spokenLength 1 = .ok (.iload_n 1, 1) := by decide +kernel
theorem dX6_spokenLength_2 : decode cX6_spokenLength 2 = .ok (.iconst 0, 1) := by decide +kernel
theorem dX6_spokenLength_3 : decode cX6_spokenLength 3 = .ok (.iconst 2, 1) := by decide +kernel
theorem dX6_spokenLength_4 : decode cX6_spokenLength 4 = .ok (.invokestatic 57, 3) := by decide +kernel
theorem dX6_spokenLength_7 : decode cX6_spokenLength 7 = .ok (.iload_n 2, 1) := by decide +kernel
theorem dX6_spokenLength_8 : decode cX6_spokenLength 8 = .ok (.invokestatic 65, 3) := by decide +kernel
theorem dX6_spokenLength_11 : decode cX6_spokenLength 11 = .ok (.iconst 1, 1) := by decide +kernel
theorem dX6_spokenLength_12 : decode cX6_spokenLength 12 = .ok (.invokevirtual 68, 3) := by decide +kernel
theorem dX6_spokenLength_15 : decode cX6_spokenLength 15 = .ok (.ifCond .eq 13, 3) := by decide +kernel
theorem dX6_spokenLength_18 : decode cX6_spokenLength 18 = .ok (.iload_n 2, 1) := by decide +kernel
theorem dX6_spokenLength_19 : decode cX6_spokenLength 19 = .ok (.invokestatic 40, 3) := by decide +kernel
theorem dX6_spokenLength_22 : decode cX6_spokenLength 22 = .ok (.invokestatic 47, 3) := by decide +kernel
theorem dX6_spokenLength_25 : decode cX6_spokenLength 25 = .ok (.goto 4, 3) := by decide +kernel
theorem dX6_spokenLength_28 : decode cX6_spokenLength 28 = .ok (.iconst 0, 1) := by decide +kernel
theorem dX6_spokenLength_29 : decode cX6_spokenLength 29 = .ok (.ireturn, 1) := by decide +kernel
theorem dX6_word_0 : decode cX6_word 0 = .ok (.iload_n 1, 1) := by decide +kernel
theorem dX6_word_1 : decode cX6_word 1 = .ok (.iload_n 0, 1) := by decide +kernel
theorem dX6_word_2 : decode cX6_word 2 = .ok (.ifCond .ne 14, 3) := by decide +kernel
theorem dX6_word_5 : decode cX6_word 5 = .ok (.iload_n 1, 1) := by decide +kernel
theorem dX6_word_6 : decode cX6_word 6 = .ok (.invokestatic 47, 3) := by decide +kernel
theorem dX6_word_9 : decode cX6_word 9 = .ok (.iconst 1, 1) := by decide +kernel
theorem dX6_word_10 : decode cX6_word 10 = .ok (.isub, 1) := by decide +kernel
theorem dX6_word_11 : decode cX6_word 11 = .ok (.iload_n 2, 1) := by decide +kernel
theorem dX6_word_12 : decode cX6_word 12 = .ok (.isub, 1) := by decide +kernel
theorem dX6_word_13 : decode cX6_word 13 = .ok (.goto 4, 3) := by decide +kernel
theorem dX6_word_16 : decode cX6_word 16 = .ok (.iload_n 2, 1) := by decide +kernel
theorem dX6_word_17 : decode cX6_word 17 = .ok (.invokestatic 43, 3) := by decide +kernel
theorem dX6_word_20 : decode cX6_word 20 = .ok (.istore_n 3, 1) := by decide +kernel
theorem dX6_word_21 : decode cX6_word 21 = .ok (.iload_n 0, 1) := by decide +kernel
theorem dX6_word_22 : decode cX6_word 22 = .ok (.iconst 2, 1) := by decide +kernel
theorem dX6_word_23 : decode cX6_word 23 = .ok (.if_icmp .lt 7, 3) := by decide +kernel
theorem dX6_word_26 : decode cX6_word 26 = .ok (.iload_n 2, 1) := by decide +kernel
theorem dX6_word_27 : decode cX6_word 27 = .ok (.ifCond .ne 7, 3) := by decide +kernel
theorem dX6_word_30 : decode cX6_word 30 = .ok (.iload_n 3, 1) := by decide +kernel
theorem dX6_word_31 : decode cX6_word 31 = .ok (.goto 12, 3) := by decide +kernel
theorem dX6_word_34 : decode cX6_word 34 = .ok (.iload_n 3, 1) := by decide +kernel
theorem dX6_word_35 : decode cX6_word 35 = .ok (.iload_n 1, 1) := by decide +kernel
theorem dX6_word_36 : decode cX6_word 36 = .ok (.iload_n 2, 1) := by decide +kernel
theorem dX6_word_37 : decode cX6_word 37 = .ok (.iconst 1, 1) := by decide +kernel
theorem dX6_word_38 : decode cX6_word 38 = .ok (.isub, 1) := by decide +kernel
theorem dX6_word_39 : decode cX6_word 39 = .ok (.invokestatic 43, 3) := by decide +kernel
theorem dX6_word_42 : decode cX6_word 42 = .ok (.isub, 1) := by decide +kernel
theorem dX6_word_43 : decode cX6_word 43 = .ok (.ireturn, 1) := by decide +kernel
theorem dX6_spokenAt_0 : decode cX6_spokenAt 0 = .ok (.iload_n 2, 1) := by decide +kernel
theorem dX6_spokenAt_1 : decode cX6_spokenAt 1 = .ok (.invokestatic 65, 3) := by decide +kernel
theorem dX6_spokenAt_4 : decode cX6_spokenAt 4 = .ok (.ifCond .eq 33, 3) := by decide +kernel
theorem dX6_spokenAt_7 : decode cX6_spokenAt 7 = .ok (.iload_n 3, 1) := by decide +kernel
theorem dX6_spokenAt_8 : decode cX6_spokenAt 8 = .ok (.ifCond .lt 29, 3) := by decide +kernel
theorem dX6_spokenAt_11 : decode cX6_spokenAt 11 = .ok (.iload_n 3, 1) := by decide +kernel
theorem dX6_spokenAt_12 : decode cX6_spokenAt 12 = .ok (.iload_n 2, 1) := by decide +kernel
theorem dX6_spokenAt_13 : decode cX6_spokenAt 13 = .ok (.invokestatic 65, 3) := by decide +kernel
theorem dX6_spokenAt_16 : decode cX6_spokenAt 16 = .ok (.ifCond .eq 7, 3) := by decide +kernel
theorem dX6_spokenAt_19 : decode cX6_spokenAt 19 = .ok (.iload_n 2, 1) := by decide +kernel
theorem dX6_spokenAt_20 : decode cX6_spokenAt 20 = .ok (.goto 4, 3) := by decide +kernel
theorem dX6_spokenAt_23 : decode cX6_spokenAt 23 = .ok (.iconst 0, 1) := by decide +kernel
theorem dX6_spokenAt_24 : decode cX6_spokenAt 24 = .ok (.invokestatic 40, 3) := by decide +kernel
theorem dX6_spokenAt_27 : decode cX6_spokenAt 27 = .ok (.invokestatic 47, 3) := by decide +kernel
theorem dX6_spokenAt_30 : decode cX6_spokenAt 30 = .ok (.if_icmp .ge 7, 3) := by decide +kernel
theorem dX6_spokenAt_33 : decode cX6_spokenAt 33 = .ok (.iconst 1, 1) := by decide +kernel
theorem dX6_spokenAt_34 : decode cX6_spokenAt 34 = .ok (.goto 4, 3) := by decide +kernel
theorem dX6_spokenAt_37 : decode cX6_spokenAt 37 = .ok (.iconst 0, 1) := by decide +kernel
theorem dX6_spokenAt_38 : decode cX6_spokenAt 38 = .ok (.istore 4, 2) := by decide +kernel
theorem dX6_spokenAt_40 : decode cX6_spokenAt 40 = .ok (.aload_n 0, 1) := by decide +kernel
theorem dX6_spokenAt_41 : decode cX6_spokenAt 41 = .ok (.iload_n 1, 1) := by decide +kernel
theorem dX6_spokenAt_42 : decode cX6_spokenAt 42 = .ok (.iconst 0, 1) := by decide +kernel
theorem dX6_spokenAt_43 : decode cX6_spokenAt 43 = .ok (.iconst 2, 1) := by decide +kernel
theorem dX6_spokenAt_44 : decode cX6_spokenAt 44 = .ok (.invokestatic 57, 3) := by decide +kernel
theorem dX6_spokenAt_47 : decode cX6_spokenAt 47 = .ok (.iload 4, 2) := by decide +kernel
theorem dX6_spokenAt_49 : decode cX6_spokenAt 49 = .ok (.iconst 1, 1) := by decide +kernel
theorem dX6_spokenAt_50 : decode cX6_spokenAt 50 = .ok (.invokevirtual 68, 3) := by decide +kernel
theorem dX6_spokenAt_53 : decode cX6_spokenAt 53 = .ok (.ifCond .eq 15, 3) := by decide +kernel
theorem dX6_spokenAt_56 : decode cX6_spokenAt 56 = .ok (.iload_n 1, 1) := by decide +kernel
theorem dX6_spokenAt_57 : decode cX6_spokenAt 57 = .ok (.iload_n 2, 1) := by decide +kernel
theorem dX6_spokenAt_58 : decode cX6_spokenAt 58 = .ok (.invokestatic 40, 3) := by decide +kernel
theorem dX6_spokenAt_61 : decode cX6_spokenAt 61 = .ok (.iload_n 3, 1) := by decide +kernel
theorem dX6_spokenAt_62 : decode cX6_spokenAt 62 = .ok (.invokestatic 156, 3) := by decide +kernel
theorem dX6_spokenAt_65 : decode cX6_spokenAt 65 = .ok (.goto 4, 3) := by decide +kernel
theorem dX6_spokenAt_68 : decode cX6_spokenAt 68 = .ok (.iconst 0, 1) := by decide +kernel
theorem dX6_spokenAt_69 : decode cX6_spokenAt 69 = .ok (.ireturn, 1) := by decide +kernel
theorem dX6_numberOf_0 : decode cX6_numberOf 0 = .ok (.aload_n 0, 1) := by decide +kernel
theorem dX6_numberOf_1 : decode cX6_numberOf 1 = .ok (.iload_n 1, 1) := by decide +kernel
theorem dX6_numberOf_2 : decode cX6_numberOf 2 = .ok (.invokestatic 62, 3) := by decide +kernel
theorem dX6_numberOf_5 : decode cX6_numberOf 5 = .ok (.iconst 1, 1) := by decide +kernel
theorem dX6_numberOf_6 : decode cX6_numberOf 6 = .ok (.iconst 1, 1) := by decide +kernel
theorem dX6_numberOf_7 : decode cX6_numberOf 7 = .ok (.invokevirtual 68, 3) := by decide +kernel
theorem dX6_numberOf_10 : decode cX6_numberOf 10 = .ok (.ifCond .eq 12, 3) := by decide +kernel
theorem dX6_numberOf_13 : decode cX6_numberOf 13 = .ok (.aload_n 0, 1) := by decide +kernel
theorem dX6_numberOf_14 : decode cX6_numberOf 14 = .ok (.getfield 7, 3) := by decide +kernel
theorem dX6_numberOf_17 : decode cX6_numberOf 17 = .ok (.iload_n 1, 1) := by decide +kernel
theorem dX6_numberOf_18 : decode cX6_numberOf 18 = .ok (.iaload, 1) := by decide +kernel
theorem dX6_numberOf_19 : decode cX6_numberOf 19 = .ok (.goto 4, 3) := by decide +kernel
theorem dX6_numberOf_22 : decode cX6_numberOf 22 = .ok (.iconst 0, 1) := by decide +kernel
theorem dX6_numberOf_23 : decode cX6_numberOf 23 = .ok (.ireturn, 1) := by decide +kernel
theorem dX6_stepsOf_0 : decode cX6_stepsOf 0 = .ok (.aload_n 0, 1) := by decide +kernel
theorem dX6_stepsOf_1 : decode cX6_stepsOf 1 = .ok (.iload_n 1, 1) := by decide +kernel
theorem dX6_stepsOf_2 : decode cX6_stepsOf 2 = .ok (.invokestatic 62, 3) := by decide +kernel
theorem dX6_stepsOf_5 : decode cX6_stepsOf 5 = .ok (.iconst 1, 1) := by decide +kernel
theorem dX6_stepsOf_6 : decode cX6_stepsOf 6 = .ok (.iconst 1, 1) := by decide +kernel
theorem dX6_stepsOf_7 : decode cX6_stepsOf 7 = .ok (.invokevirtual 68, 3) := by decide +kernel
theorem dX6_stepsOf_10 : decode cX6_stepsOf 10 = .ok (.ifCond .eq 18, 3) := by decide +kernel
theorem dX6_stepsOf_13 : decode cX6_stepsOf 13 = .ok (.aload_n 0, 1) := by decide +kernel
theorem dX6_stepsOf_14 : decode cX6_stepsOf 14 = .ok (.getfield 7, 3) := by decide +kernel
theorem dX6_stepsOf_17 : decode cX6_stepsOf 17 = .ok (.iload_n 1, 1) := by decide +kernel
theorem dX6_stepsOf_18 : decode cX6_stepsOf 18 = .ok (.iaload, 1) := by decide +kernel
theorem dX6_stepsOf_19 : decode cX6_stepsOf 19 = .ok (.invokestatic 40, 3) := by decide +kernel
theorem dX6_stepsOf_22 : decode cX6_stepsOf 22 = .ok (.invokestatic 47, 3) := by decide +kernel
theorem dX6_stepsOf_25 : decode cX6_stepsOf 25 = .ok (.goto 4, 3) := by decide +kernel
theorem dX6_stepsOf_28 : decode cX6_stepsOf 28 = .ok (.iconst 0, 1) := by decide +kernel
theorem dX6_stepsOf_29 : decode cX6_stepsOf 29 = .ok (.ireturn, 1) := by decide +kernel
theorem dX6_total_0 : decode cX6_total 0 = .ok (.aload_n 0, 1) := by decide +kernel
theorem dX6_total_1 : decode cX6_total 1 = .ok (.iconst 0, 1) := by decide +kernel
theorem dX6_total_2 : decode cX6_total 2 = .ok (.putfield 22, 3) := by decide +kernel
theorem dX6_total_5 : decode cX6_total 5 = .ok (.aload_n 0, 1) := by decide +kernel
theorem dX6_total_6 : decode cX6_total 6 = .ok (.invokevirtual 146, 3) := by decide +kernel
theorem dX6_total_9 : decode cX6_total 9 = .ok (.ireturn, 1) := by decide +kernel
theorem dX6_rich_0 : decode cX6_rich 0 = .ok (.iconst 0, 1) := by decide +kernel
theorem dX6_rich_1 : decode cX6_rich 1 = .ok (.istore_n 1, 1) := by decide +kernel
theorem dX6_rich_2 : decode cX6_rich 2 = .ok (.iconst 1, 1) := by decide +kernel
theorem dX6_rich_3 : decode cX6_rich 3 = .ok (.istore_n 2, 1) := by decide +kernel
theorem dX6_rich_4 : decode cX6_rich 4 = .ok (.iload_n 2, 1) := by decide +kernel
theorem dX6_rich_5 : decode cX6_rich 5 = .ok (.bipush 6, 2) := by decide +kernel
theorem dX6_rich_7 : decode cX6_rich 7 = .ok (.if_icmp .ge 30, 3) := by decide +kernel
theorem dX6_rich_10 : decode cX6_rich 10 = .ok (.aload_n 0, 1) := by decide +kernel
theorem dX6_rich_11 : decode cX6_rich 11 = .ok (.getfield 7, 3) := by decide +kernel
theorem dX6_rich_14 : decode cX6_rich 14 = .ok (.iload_n 2, 1) := by decide +kernel
theorem dX6_rich_15 : decode cX6_rich 15 = .ok (.iaload, 1) := by decide +kernel
theorem dX6_rich_16 : decode cX6_rich 16 = .ok (.aload_n 0, 1) := by decide +kernel
theorem dX6_rich_17 : decode cX6_rich 17 = .ok (.getfield 7, 3) := by decide +kernel
theorem dX6_rich_20 : decode cX6_rich 20 = .ok (.iload_n 1, 1) := by decide +kernel
theorem dX6_rich_21 : decode cX6_rich 21 = .ok (.iaload, 1) := by decide +kernel
theorem dX6_rich_22 : decode cX6_rich 22 = .ok (.if_icmp .le 7, 3) := by decide +kernel
theorem dX6_rich_25 : decode cX6_rich 25 = .ok (.iload_n 2, 1) := by decide +kernel
theorem dX6_rich_26 : decode cX6_rich 26 = .ok (.goto 4, 3) := by decide +kernel
theorem dX6_rich_29 : decode cX6_rich 29 = .ok (.iload_n 1, 1) := by decide +kernel
theorem dX6_rich_30 : decode cX6_rich 30 = .ok (.istore_n 1, 1) := by decide +kernel
theorem dX6_rich_31 : decode cX6_rich 31 = .ok (.iinc 2 1, 3) := by decide +kernel
theorem dX6_rich_34 : decode cX6_rich 34 = .ok (.goto (-30), 3) := by decide +kernel
theorem dX6_rich_37 : decode cX6_rich 37 = .ok (.iload_n 1, 1) := by decide +kernel
theorem dX6_rich_38 : decode cX6_rich 38 = .ok (.ireturn, 1) := by decide +kernel
theorem dX6_richest_0 : decode cX6_richest 0 = .ok (.aload_n 0, 1) := by decide +kernel
theorem dX6_richest_1 : decode cX6_richest 1 = .ok (.iconst 0, 1) := by decide +kernel
theorem dX6_richest_2 : decode cX6_richest 2 = .ok (.putfield 22, 3) := by decide +kernel
theorem dX6_richest_5 : decode cX6_richest 5 = .ok (.aload_n 0, 1) := by decide +kernel
theorem dX6_richest_6 : decode cX6_richest 6 = .ok (.invokevirtual 160, 3) := by decide +kernel
theorem dX6_richest_9 : decode cX6_richest 9 = .ok (.ireturn, 1) := by decide +kernel
theorem dX6_sumByCarries_0 : decode cX6_sumByCarries 0 = .ok (.aload_n 0, 1) := by decide +kernel
theorem dX6_sumByCarries_1 : decode cX6_sumByCarries 1 = .ok (.iload_n 1, 1) := by decide +kernel
theorem dX6_sumByCarries_2 : decode cX6_sumByCarries 2 = .ok (.invokestatic 62, 3) := by decide +kernel
theorem dX6_sumByCarries_5 : decode cX6_sumByCarries 5 = .ok (.ifCond .eq 14, 3) := by decide +kernel
theorem dX6_sumByCarries_8 : decode cX6_sumByCarries 8 = .ok (.iload_n 2, 1) := by decide +kernel
theorem dX6_sumByCarries_9 : decode cX6_sumByCarries 9 = .ok (.invokestatic 62, 3) := by decide +kernel
theorem dX6_sumByCarries_12 : decode cX6_sumByCarries 12 = .ok (.ifCond .eq 7, 3) := by decide +kernel
theorem dX6_sumByCarries_15 : decode cX6_sumByCarries 15 = .ok (.iconst 1, 1) := by decide +kernel
theorem dX6_sumByCarries_16 : decode cX6_sumByCarries 16 = .ok (.goto 4, 3) := by decide +kernel
theorem dX6_sumByCarries_19 : decode cX6_sumByCarries 19 = .ok (.iconst 0, 1) := by decide +kernel
theorem dX6_sumByCarries_20 : decode cX6_sumByCarries 20 = .ok (.iconst 1, 1) := by decide +kernel
theorem dX6_sumByCarries_21 : decode cX6_sumByCarries 21 = .ok (.iconst 1, 1) := by decide +kernel
theorem dX6_sumByCarries_22 : decode cX6_sumByCarries 22 = .ok (.invokevirtual 68, 3) := by decide +kernel
theorem dX6_sumByCarries_25 : decode cX6_sumByCarries 25 = .ok (.ifCond .eq 28, 3) := by decide +kernel
theorem dX6_sumByCarries_28 : decode cX6_sumByCarries 28 = .ok (.aload_n 0, 1) := by decide +kernel
theorem dX6_sumByCarries_29 : decode cX6_sumByCarries 29 = .ok (.aload_n 0, 1) := by decide +kernel
theorem dX6_sumByCarries_30 : decode cX6_sumByCarries 30 = .ok (.getfield 7, 3) := by decide +kernel
theorem dX6_sumByCarries_33 : decode cX6_sumByCarries 33 = .ok (.iload_n 1, 1) := by decide +kernel
theorem dX6_sumByCarries_34 : decode cX6_sumByCarries 34 = .ok (.iaload, 1) := by decide +kernel
theorem dX6_sumByCarries_35 : decode cX6_sumByCarries 35 = .ok (.invokestatic 40, 3) := by decide +kernel
theorem dX6_sumByCarries_38 : decode cX6_sumByCarries 38 = .ok (.aload_n 0, 1) := by decide +kernel
theorem dX6_sumByCarries_39 : decode cX6_sumByCarries 39 = .ok (.getfield 7, 3) := by decide +kernel
theorem dX6_sumByCarries_42 : decode cX6_sumByCarries 42 = .ok (.iload_n 2, 1) := by decide +kernel
theorem dX6_sumByCarries_43 : decode cX6_sumByCarries 43 = .ok (.iaload, 1) := by decide +kernel
theorem dX6_sumByCarries_44 : decode cX6_sumByCarries 44 = .ok (.invokestatic 40, 3) := by decide +kernel
theorem dX6_sumByCarries_47 : decode cX6_sumByCarries 47 = .ok (.invokevirtual 75, 3) := by decide +kernel
theorem dX6_sumByCarries_50 : decode cX6_sumByCarries 50 = .ok (.goto 4, 3) := by decide +kernel
theorem dX6_sumByCarries_53 : decode cX6_sumByCarries 53 = .ok (.iconst 0, 1) := by decide +kernel
theorem dX6_sumByCarries_54 : decode cX6_sumByCarries 54 = .ok (.ireturn, 1) := by decide +kernel
theorem dX6_carries_0 : decode cX6_carries 0 = .ok (.aload_n 0, 1) := by decide +kernel
theorem dX6_carries_1 : decode cX6_carries 1 = .ok (.iload_n 1, 1) := by decide +kernel
theorem dX6_carries_2 : decode cX6_carries 2 = .ok (.invokestatic 62, 3) := by decide +kernel
theorem dX6_carries_5 : decode cX6_carries 5 = .ok (.ifCond .eq 14, 3) := by decide +kernel
theorem dX6_carries_8 : decode cX6_carries 8 = .ok (.iload_n 2, 1) := by decide +kernel
theorem dX6_carries_9 : decode cX6_carries 9 = .ok (.invokestatic 62, 3) := by decide +kernel
theorem dX6_carries_12 : decode cX6_carries 12 = .ok (.ifCond .eq 7, 3) := by decide +kernel
theorem dX6_carries_15 : decode cX6_carries 15 = .ok (.iconst 1, 1) := by decide +kernel
theorem dX6_carries_16 : decode cX6_carries 16 = .ok (.goto 4, 3) := by decide +kernel
theorem dX6_carries_19 : decode cX6_carries 19 = .ok (.iconst 0, 1) := by decide +kernel
theorem dX6_carries_20 : decode cX6_carries 20 = .ok (.iconst 1, 1) := by decide +kernel
theorem dX6_carries_21 : decode cX6_carries 21 = .ok (.iconst 1, 1) := by decide +kernel
theorem dX6_carries_22 : decode cX6_carries 22 = .ok (.invokevirtual 68, 3) := by decide +kernel
theorem dX6_carries_25 : decode cX6_carries 25 = .ok (.ifCond .ne 5, 3) := by decide +kernel
theorem dX6_carries_28 : decode cX6_carries 28 = .ok (.iconst 0, 1) := by decide +kernel
theorem dX6_carries_29 : decode cX6_carries 29 = .ok (.ireturn, 1) := by decide +kernel
theorem dX6_carries_30 : decode cX6_carries 30 = .ok (.aload_n 0, 1) := by decide +kernel
theorem dX6_carries_31 : decode cX6_carries 31 = .ok (.aload_n 0, 1) := by decide +kernel
theorem dX6_carries_32 : decode cX6_carries 32 = .ok (.getfield 7, 3) := by decide +kernel
theorem dX6_carries_35 : decode cX6_carries 35 = .ok (.iload_n 1, 1) := by decide +kernel
theorem dX6_carries_36 : decode cX6_carries 36 = .ok (.iaload, 1) := by decide +kernel
theorem dX6_carries_37 : decode cX6_carries 37 = .ok (.invokestatic 40, 3) := by decide +kernel
theorem dX6_carries_40 : decode cX6_carries 40 = .ok (.aload_n 0, 1) := by decide +kernel
theorem dX6_carries_41 : decode cX6_carries 41 = .ok (.getfield 7, 3) := by decide +kernel
theorem dX6_carries_44 : decode cX6_carries 44 = .ok (.iload_n 2, 1) := by decide +kernel
theorem dX6_carries_45 : decode cX6_carries 45 = .ok (.iaload, 1) := by decide +kernel
theorem dX6_carries_46 : decode cX6_carries 46 = .ok (.invokestatic 40, 3) := by decide +kernel
theorem dX6_carries_49 : decode cX6_carries 49 = .ok (.invokevirtual 75, 3) := by decide +kernel
theorem dX6_carries_52 : decode cX6_carries 52 = .ok (.pop, 1) := by decide +kernel
theorem dX6_carries_53 : decode cX6_carries 53 = .ok (.aload_n 0, 1) := by decide +kernel
theorem dX6_carries_54 : decode cX6_carries 54 = .ok (.getfield 50, 3) := by decide +kernel
theorem dX6_carries_57 : decode cX6_carries 57 = .ok (.ireturn, 1) := by decide +kernel
theorem dX6_streamLength_0 : decode cX6_streamLength 0 = .ok (.aload_n 0, 1) := by decide +kernel
theorem dX6_streamLength_1 : decode cX6_streamLength 1 = .ok (.iconst 0, 1) := by decide +kernel
theorem dX6_streamLength_2 : decode cX6_streamLength 2 = .ok (.putfield 22, 3) := by decide +kernel
theorem dX6_streamLength_5 : decode cX6_streamLength 5 = .ok (.aload_n 0, 1) := by decide +kernel
theorem dX6_streamLength_6 : decode cX6_streamLength 6 = .ok (.getfield 7, 3) := by decide +kernel
theorem dX6_streamLength_9 : decode cX6_streamLength 9 = .ok (.bipush 6, 2) := by decide +kernel
theorem dX6_streamLength_11 : decode cX6_streamLength 11 = .ok (.iaload, 1) := by decide +kernel
theorem dX6_streamLength_12 : decode cX6_streamLength 12 = .ok (.ireturn, 1) := by decide +kernel
theorem dX6_digitAt_0 : decode cX6_digitAt 0 = .ok (.aload_n 0, 1) := by decide +kernel
theorem dX6_digitAt_1 : decode cX6_digitAt 1 = .ok (.aload_n 0, 1) := by decide +kernel
theorem dX6_digitAt_2 : decode cX6_digitAt 2 = .ok (.iload_n 1, 1) := by decide +kernel
theorem dX6_digitAt_3 : decode cX6_digitAt 3 = .ok (.invokevirtual 93, 3) := by decide +kernel
theorem dX6_digitAt_6 : decode cX6_digitAt 6 = .ok (.iconst 1, 1) := by decide +kernel
theorem dX6_digitAt_7 : decode cX6_digitAt 7 = .ok (.iconst 1, 1) := by decide +kernel
theorem dX6_digitAt_8 : decode cX6_digitAt 8 = .ok (.invokevirtual 68, 3) := by decide +kernel
theorem dX6_digitAt_11 : decode cX6_digitAt 11 = .ok (.ifCond .eq 15, 3) := by decide +kernel
theorem dX6_digitAt_14 : decode cX6_digitAt 14 = .ok (.aload_n 0, 1) := by decide +kernel
theorem dX6_digitAt_15 : decode cX6_digitAt 15 = .ok (.getfield 7, 3) := by decide +kernel
theorem dX6_digitAt_18 : decode cX6_digitAt 18 = .ok (.bipush 7, 2) := by decide +kernel
theorem dX6_digitAt_20 : decode cX6_digitAt 20 = .ok (.iload_n 1, 1) := by decide +kernel
theorem dX6_digitAt_21 : decode cX6_digitAt 21 = .ok (.iadd, 1) := by decide +kernel
theorem dX6_digitAt_22 : decode cX6_digitAt 22 = .ok (.iaload, 1) := by decide +kernel
theorem dX6_digitAt_23 : decode cX6_digitAt 23 = .ok (.goto 4, 3) := by decide +kernel
theorem dX6_digitAt_26 : decode cX6_digitAt 26 = .ok (.iconst 0, 1) := by decide +kernel
theorem dX6_digitAt_27 : decode cX6_digitAt 27 = .ok (.ireturn, 1) := by decide +kernel
theorem dX6_readNumbers_0 : decode cX6_readNumbers 0 = .ok (.aload_n 0, 1) := by decide +kernel
theorem dX6_readNumbers_1 : decode cX6_readNumbers 1 = .ok (.iconst 0, 1) := by decide +kernel
theorem dX6_readNumbers_2 : decode cX6_readNumbers 2 = .ok (.putfield 22, 3) := by decide +kernel
theorem dX6_readNumbers_5 : decode cX6_readNumbers 5 = .ok (.aload_n 0, 1) := by decide +kernel
theorem dX6_readNumbers_6 : decode cX6_readNumbers 6 = .ok (.invokevirtual 163, 3) := by decide +kernel
theorem dX6_readNumbers_9 : decode cX6_readNumbers 9 = .ok (.ireturn, 1) := by decide +kernel
theorem dX6_readAt_0 : decode cX6_readAt 0 = .ok (.aload_n 0, 1) := by decide +kernel
theorem dX6_readAt_1 : decode cX6_readAt 1 = .ok (.iload_n 1, 1) := by decide +kernel
theorem dX6_readAt_2 : decode cX6_readAt 2 = .ok (.iconst 0, 1) := by decide +kernel
theorem dX6_readAt_3 : decode cX6_readAt 3 = .ok (.aload_n 0, 1) := by decide +kernel
theorem dX6_readAt_4 : decode cX6_readAt 4 = .ok (.invokevirtual 163, 3) := by decide +kernel
theorem dX6_readAt_7 : decode cX6_readAt 7 = .ok (.iconst 1, 1) := by decide +kernel
theorem dX6_readAt_8 : decode cX6_readAt 8 = .ok (.isub, 1) := by decide +kernel
theorem dX6_readAt_9 : decode cX6_readAt 9 = .ok (.invokestatic 57, 3) := by decide +kernel
theorem dX6_readAt_12 : decode cX6_readAt 12 = .ok (.iconst 1, 1) := by decide +kernel
theorem dX6_readAt_13 : decode cX6_readAt 13 = .ok (.iconst 1, 1) := by decide +kernel
theorem dX6_readAt_14 : decode cX6_readAt 14 = .ok (.invokevirtual 68, 3) := by decide +kernel
theorem dX6_readAt_17 : decode cX6_readAt 17 = .ok (.ifCond .eq 12, 3) := by decide +kernel
theorem dX6_readAt_20 : decode cX6_readAt 20 = .ok (.aload_n 0, 1) := by decide +kernel
theorem dX6_readAt_21 : decode cX6_readAt 21 = .ok (.getfield 19, 3) := by decide +kernel
theorem dX6_readAt_24 : decode cX6_readAt 24 = .ok (.iload_n 1, 1) := by decide +kernel
theorem dX6_readAt_25 : decode cX6_readAt 25 = .ok (.iaload, 1) := by decide +kernel
theorem dX6_readAt_26 : decode cX6_readAt 26 = .ok (.goto 4, 3) := by decide +kernel
theorem dX6_readAt_29 : decode cX6_readAt 29 = .ok (.iconst 0, 1) := by decide +kernel
theorem dX6_readAt_30 : decode cX6_readAt 30 = .ok (.ireturn, 1) := by decide +kernel
theorem dX6_errors_0 : decode cX6_errors 0 = .ok (.aload_n 0, 1) := by decide +kernel
theorem dX6_errors_1 : decode cX6_errors 1 = .ok (.iconst 0, 1) := by decide +kernel
theorem dX6_errors_2 : decode cX6_errors 2 = .ok (.putfield 22, 3) := by decide +kernel
theorem dX6_errors_5 : decode cX6_errors 5 = .ok (.aload_n 0, 1) := by decide +kernel
theorem dX6_errors_6 : decode cX6_errors 6 = .ok (.invokevirtual 163, 3) := by decide +kernel
theorem dX6_errors_9 : decode cX6_errors 9 = .ok (.pop, 1) := by decide +kernel
theorem dX6_errors_10 : decode cX6_errors 10 = .ok (.aload_n 0, 1) := by decide +kernel
theorem dX6_errors_11 : decode cX6_errors 11 = .ok (.getfield 99, 3) := by decide +kernel
theorem dX6_errors_14 : decode cX6_errors 14 = .ok (.ireturn, 1) := by decide +kernel
theorem dX6_looseDigits_0 : decode cX6_looseDigits 0 = .ok (.aload_n 0, 1) := by decide +kernel
theorem dX6_looseDigits_1 : decode cX6_looseDigits 1 = .ok (.iconst 0, 1) := by decide +kernel
theorem dX6_looseDigits_2 : decode cX6_looseDigits 2 = .ok (.putfield 22, 3) := by decide +kernel
theorem dX6_looseDigits_5 : decode cX6_looseDigits 5 = .ok (.aload_n 0, 1) := by decide +kernel
theorem dX6_looseDigits_6 : decode cX6_looseDigits 6 = .ok (.invokevirtual 163, 3) := by decide +kernel
theorem dX6_looseDigits_9 : decode cX6_looseDigits 9 = .ok (.pop, 1) := by decide +kernel
theorem dX6_looseDigits_10 : decode cX6_looseDigits 10 = .ok (.aload_n 0, 1) := by decide +kernel
theorem dX6_looseDigits_11 : decode cX6_looseDigits 11 = .ok (.getfield 102, 3) := by decide +kernel
theorem dX6_looseDigits_14 : decode cX6_looseDigits 14 = .ok (.ireturn, 1) := by decide +kernel
theorem dX6_readTurned_0 : decode cX6_readTurned 0 = .ok (.aload_n 0, 1) := by decide +kernel
theorem dX6_readTurned_1 : decode cX6_readTurned 1 = .ok (.iload_n 1, 1) := by decide +kernel
theorem dX6_readTurned_2 : decode cX6_readTurned 2 = .ok (.invokevirtual 96, 3) := by decide +kernel
theorem dX6_readTurned_5 : decode cX6_readTurned 5 = .ok (.pop, 1) := by decide +kernel
theorem dX6_readTurned_6 : decode cX6_readTurned 6 = .ok (.aload_n 0, 1) := by decide +kernel
theorem dX6_readTurned_7 : decode cX6_readTurned 7 = .ok (.invokevirtual 163, 3) := by decide +kernel
theorem dX6_readTurned_10 : decode cX6_readTurned 10 = .ok (.istore_n 2, 1) := by decide +kernel
theorem dX6_readTurned_11 : decode cX6_readTurned 11 = .ok (.aload_n 0, 1) := by decide +kernel
theorem dX6_readTurned_12 : decode cX6_readTurned 12 = .ok (.iload_n 1, 1) := by decide +kernel
theorem dX6_readTurned_13 : decode cX6_readTurned 13 = .ok (.invokevirtual 96, 3) := by decide +kernel
theorem dX6_readTurned_16 : decode cX6_readTurned 16 = .ok (.pop, 1) := by decide +kernel
theorem dX6_readTurned_17 : decode cX6_readTurned 17 = .ok (.iload_n 2, 1) := by decide +kernel
theorem dX6_readTurned_18 : decode cX6_readTurned 18 = .ok (.ireturn, 1) := by decide +kernel
theorem dX6_readIfTurned_0 : decode cX6_readIfTurned 0 = .ok (.aload_n 0, 1) := by decide +kernel
theorem dX6_readIfTurned_1 : decode cX6_readIfTurned 1 = .ok (.aload_n 0, 1) := by decide +kernel
theorem dX6_readIfTurned_2 : decode cX6_readIfTurned 2 = .ok (.iload_n 1, 1) := by decide +kernel
theorem dX6_readIfTurned_3 : decode cX6_readIfTurned 3 = .ok (.invokevirtual 93, 3) := by decide +kernel
theorem dX6_readIfTurned_6 : decode cX6_readIfTurned 6 = .ok (.iconst 1, 1) := by decide +kernel
theorem dX6_readIfTurned_7 : decode cX6_readIfTurned 7 = .ok (.iconst 1, 1) := by decide +kernel
theorem dX6_readIfTurned_8 : decode cX6_readIfTurned 8 = .ok (.invokevirtual 68, 3) := by decide +kernel
theorem dX6_readIfTurned_11 : decode cX6_readIfTurned 11 = .ok (.ifCond .eq 11, 3) := by decide +kernel
theorem dX6_readIfTurned_14 : decode cX6_readIfTurned 14 = .ok (.aload_n 0, 1) := by decide +kernel
theorem dX6_readIfTurned_15 : decode cX6_readIfTurned 15 = .ok (.iload_n 1, 1) := by decide +kernel
theorem dX6_readIfTurned_16 : decode cX6_readIfTurned 16 = .ok (.invokevirtual 166, 3) := by decide +kernel
theorem dX6_readIfTurned_19 : decode cX6_readIfTurned 19 = .ok (.goto 4, 3) := by decide +kernel
theorem dX6_readIfTurned_22 : decode cX6_readIfTurned 22 = .ok (.iconst 0, 1) := by decide +kernel
theorem dX6_readIfTurned_23 : decode cX6_readIfTurned 23 = .ok (.ireturn, 1) := by decide +kernel
theorem dX6_codeLength_0 : decode cX6_codeLength 0 = .ok (.aload_n 0, 1) := by decide +kernel
theorem dX6_codeLength_1 : decode cX6_codeLength 1 = .ok (.iload_n 1, 1) := by decide +kernel
theorem dX6_codeLength_2 : decode cX6_codeLength 2 = .ok (.iconst 1, 1) := by decide +kernel
theorem dX6_codeLength_3 : decode cX6_codeLength 3 = .ok (.sipush 6764, 3) := by decide +kernel
theorem dX6_codeLength_6 : decode cX6_codeLength 6 = .ok (.invokestatic 57, 3) := by decide +kernel
theorem dX6_codeLength_9 : decode cX6_codeLength 9 = .ok (.iconst 1, 1) := by decide +kernel
theorem dX6_codeLength_10 : decode cX6_codeLength 10 = .ok (.iconst 1, 1) := by decide +kernel
theorem dX6_codeLength_11 : decode cX6_codeLength 11 = .ok (.invokevirtual 68, 3) := by decide +kernel
theorem dX6_codeLength_14 : decode cX6_codeLength 14 = .ok (.ifCond .eq 10, 3) := by decide +kernel
theorem dX6_codeLength_17 : decode cX6_codeLength 17 = .ok (.iload_n 1, 1) := by decide +kernel
theorem dX6_codeLength_18 : decode cX6_codeLength 18 = .ok (.invokestatic 84, 3) := by decide +kernel
theorem dX6_codeLength_21 : decode cX6_codeLength 21 = .ok (.goto 4, 3) := by decide +kernel
theorem dX6_codeLength_24 : decode cX6_codeLength 24 = .ok (.iconst 0, 1) := by decide +kernel
theorem dX6_codeLength_25 : decode cX6_codeLength 25 = .ok (.ireturn, 1) := by decide +kernel
theorem dX6_allSteps_0 : decode cX6_allSteps 0 = .ok (.iconst 0, 1) := by decide +kernel
theorem dX6_allSteps_1 : decode cX6_allSteps 1 = .ok (.istore_n 2, 1) := by decide +kernel
theorem dX6_allSteps_2 : decode cX6_allSteps 2 = .ok (.iconst 0, 1) := by decide +kernel
theorem dX6_allSteps_3 : decode cX6_allSteps 3 = .ok (.istore_n 3, 1) := by decide +kernel
theorem dX6_allSteps_4 : decode cX6_allSteps 4 = .ok (.iload_n 3, 1) := by decide +kernel
theorem dX6_allSteps_5 : decode cX6_allSteps 5 = .ok (.bipush 6, 2) := by decide +kernel
theorem dX6_allSteps_7 : decode cX6_allSteps 7 = .ok (.if_icmp .ge 40, 3) := by decide +kernel
theorem dX6_allSteps_10 : decode cX6_allSteps 10 = .ok (.iload_n 2, 1) := by decide +kernel
theorem dX6_allSteps_11 : decode cX6_allSteps 11 = .ok (.iload_n 1, 1) := by decide +kernel
theorem dX6_allSteps_12 : decode cX6_allSteps 12 = .ok (.ifCond .eq 15, 3) := by decide +kernel
theorem dX6_allSteps_15 : decode cX6_allSteps 15 = .ok (.aload_n 0, 1) := by decide +kernel
theorem dX6_allSteps_16 : decode cX6_allSteps 16 = .ok (.getfield 7, 3) := by decide +kernel
theorem dX6_allSteps_19 : decode cX6_allSteps 19 = .ok (.iload_n 3, 1) := by decide +kernel
theorem dX6_allSteps_20 : decode cX6_allSteps 20 = .ok (.iaload, 1) := by decide +kernel
theorem dX6_allSteps_21 : decode cX6_allSteps 21 = .ok (.invokestatic 150, 3) := by decide +kernel
theorem dX6_allSteps_24 : decode cX6_allSteps 24 = .ok (.goto 12, 3) := by decide +kernel
theorem dX6_allSteps_27 : decode cX6_allSteps 27 = .ok (.aload_n 0, 1) := by decide +kernel
theorem dX6_allSteps_28 : decode cX6_allSteps 28 = .ok (.getfield 7, 3) := by decide +kernel
theorem dX6_allSteps_31 : decode cX6_allSteps 31 = .ok (.iload_n 3, 1) := by decide +kernel
theorem dX6_allSteps_32 : decode cX6_allSteps 32 = .ok (.iaload, 1) := by decide +kernel
theorem dX6_allSteps_33 : decode cX6_allSteps 33 = .ok (.invokestatic 40, 3) := by decide +kernel
theorem dX6_allSteps_36 : decode cX6_allSteps 36 = .ok (.invokestatic 47, 3) := by decide +kernel
theorem dX6_allSteps_39 : decode cX6_allSteps 39 = .ok (.iadd, 1) := by decide +kernel
theorem dX6_allSteps_40 : decode cX6_allSteps 40 = .ok (.istore_n 2, 1) := by decide +kernel
theorem dX6_allSteps_41 : decode cX6_allSteps 41 = .ok (.iinc 3 1, 3) := by decide +kernel
theorem dX6_allSteps_44 : decode cX6_allSteps 44 = .ok (.goto (-40), 3) := by decide +kernel
theorem dX6_allSteps_47 : decode cX6_allSteps 47 = .ok (.iload_n 2, 1) := by decide +kernel
theorem dX6_allSteps_48 : decode cX6_allSteps 48 = .ok (.ireturn, 1) := by decide +kernel
theorem dX6_sparseShare_0 : decode cX6_sparseShare 0 = .ok (.aload_n 0, 1) := by decide +kernel
theorem dX6_sparseShare_1 : decode cX6_sparseShare 1 = .ok (.iconst 0, 1) := by decide +kernel
theorem dX6_sparseShare_2 : decode cX6_sparseShare 2 = .ok (.putfield 22, 3) := by decide +kernel
theorem dX6_sparseShare_5 : decode cX6_sparseShare 5 = .ok (.aload_n 0, 1) := by decide +kernel
theorem dX6_sparseShare_6 : decode cX6_sparseShare 6 = .ok (.iconst 1, 1) := by decide +kernel
theorem dX6_sparseShare_7 : decode cX6_sparseShare 7 = .ok (.invokevirtual 169, 3) := by decide +kernel
theorem dX6_sparseShare_10 : decode cX6_sparseShare 10 = .ok (.ifCond .ne 7, 3) := by decide +kernel
theorem dX6_sparseShare_13 : decode cX6_sparseShare 13 = .ok (.dconst 1, 1) := by decide +kernel
theorem dX6_sparseShare_14 : decode cX6_sparseShare 14 = .ok (.goto 16, 3) := by decide +kernel
theorem dX6_sparseShare_17 : decode cX6_sparseShare 17 = .ok (.aload_n 0, 1) := by decide +kernel
theorem dX6_sparseShare_18 : decode cX6_sparseShare 18 = .ok (.iconst 0, 1) := by decide +kernel
theorem dX6_sparseShare_19 : decode cX6_sparseShare 19 = .ok (.invokevirtual 169, 3) := by decide +kernel
theorem dX6_sparseShare_22 : decode cX6_sparseShare 22 = .ok (.i2d, 1) := by decide +kernel
theorem dX6_sparseShare_23 : decode cX6_sparseShare 23 = .ok (.aload_n 0, 1) := by decide +kernel
theorem dX6_sparseShare_24 : decode cX6_sparseShare 24 = .ok (.iconst 1, 1) := by decide +kernel
theorem dX6_sparseShare_25 : decode cX6_sparseShare 25 = .ok (.invokevirtual 169, 3) := by decide +kernel
theorem dX6_sparseShare_28 : decode cX6_sparseShare 28 = .ok (.i2d, 1) := by decide +kernel
theorem dX6_sparseShare_29 : decode cX6_sparseShare 29 = .ok (.ddiv, 1) := by decide +kernel
theorem dX6_sparseShare_30 : decode cX6_sparseShare 30 = .ok (.dreturn, 1) := by decide +kernel
theorem dX6_bits_0 : decode cX6_bits 0 = .ok (.iload_n 0, 1) := by decide +kernel
theorem dX6_bits_1 : decode cX6_bits 1 = .ok (.ifCond .ne 5, 3) := by decide +kernel
theorem dX6_bits_4 : decode cX6_bits 4 = .ok (.lconst 0, 1) := by decide +kernel
theorem dX6_bits_5 : decode cX6_bits 5 = .ok (.lreturn, 1) := by decide +kernel
theorem dX6_bits_6 : decode cX6_bits 6 = .ok (.iload_n 0, 1) := by decide +kernel
theorem dX6_bits_7 : decode cX6_bits 7 = .ok (.i2l, 1) := by decide +kernel
theorem dX6_bits_8 : decode cX6_bits 8 = .ok (.lstore_n 2, 1) := by decide +kernel
theorem dX6_bits_9 : decode cX6_bits 9 = .ok (.iconst 0, 1) := by decide +kernel
theorem dX6_bits_10 : decode cX6_bits 10 = .ok (.istore 4, 2) := by decide +kernel
theorem dX6_bits_12 : decode cX6_bits 12 = .ok (.lload_n 2, 1) := by decide +kernel
theorem dX6_bits_13 : decode cX6_bits 13 = .ok (.iload_n 1, 1) := by decide +kernel
theorem dX6_bits_14 : decode cX6_bits 14 = .ok (.i2l, 1) := by decide +kernel
theorem dX6_bits_15 : decode cX6_bits 15 = .ok (.ldiv, 1) := by decide +kernel
theorem dX6_bits_16 : decode cX6_bits 16 = .ok (.ldc2_w 173, 3) := by decide +kernel
theorem dX6_bits_19 : decode cX6_bits 19 = .ok (.lcmp, 1) := by decide +kernel
theorem dX6_bits_20 : decode cX6_bits 20 = .ok (.ifCond .ge 15, 3) := by decide +kernel
theorem dX6_bits_23 : decode cX6_bits 23 = .ok (.ldc2_w 175, 3) := by decide +kernel
theorem dX6_bits_26 : decode cX6_bits 26 = .ok (.lload_n 2, 1) := by decide +kernel
theorem dX6_bits_27 : decode cX6_bits 27 = .ok (.lmul, 1) := by decide +kernel
theorem dX6_bits_28 : decode cX6_bits 28 = .ok (.lstore_n 2, 1) := by decide +kernel
theorem dX6_bits_29 : decode cX6_bits 29 = .ok (.iinc 4 1, 3) := by decide +kernel
theorem dX6_bits_32 : decode cX6_bits 32 = .ok (.goto (-20), 3) := by decide +kernel
theorem dX6_bits_35 : decode cX6_bits 35 = .ok (.lload_n 2, 1) := by decide +kernel
theorem dX6_bits_36 : decode cX6_bits 36 = .ok (.iload_n 1, 1) := by decide +kernel
theorem dX6_bits_37 : decode cX6_bits 37 = .ok (.i2l, 1) := by decide +kernel
theorem dX6_bits_38 : decode cX6_bits 38 = .ok (.ldiv, 1) := by decide +kernel
theorem dX6_bits_39 : decode cX6_bits 39 = .ok (.lstore 5, 2) := by decide +kernel
theorem dX6_bits_41 : decode cX6_bits 41 = .ok (.lload_n 2, 1) := by decide +kernel
theorem dX6_bits_42 : decode cX6_bits 42 = .ok (.iload_n 1, 1) := by decide +kernel
theorem dX6_bits_43 : decode cX6_bits 43 = .ok (.i2l, 1) := by decide +kernel
theorem dX6_bits_44 : decode cX6_bits 44 = .ok (.lrem, 1) := by decide +kernel
theorem dX6_bits_45 : decode cX6_bits 45 = .ok (.ldc2_w 175, 3) := by decide +kernel
theorem dX6_bits_48 : decode cX6_bits 48 = .ok (.lmul, 1) := by decide +kernel
theorem dX6_bits_49 : decode cX6_bits 49 = .ok (.lstore 7, 2) := by decide +kernel
theorem dX6_bits_51 : decode cX6_bits 51 = .ok (.lload 5, 2) := by decide +kernel
theorem dX6_bits_53 : decode cX6_bits 53 = .ok (.lload 7, 2) := by decide +kernel
theorem dX6_bits_55 : decode cX6_bits 55 = .ok (.iload_n 1, 1) := by decide +kernel
theorem dX6_bits_56 : decode cX6_bits 56 = .ok (.i2l, 1) := by decide +kernel
theorem dX6_bits_57 : decode cX6_bits 57 = .ok (.lcmp, 1) := by decide +kernel
theorem dX6_bits_58 : decode cX6_bits 58 = .ok (.ifCond .gt 22, 3) := by decide +kernel
theorem dX6_bits_61 : decode cX6_bits 61 = .ok (.lload 7, 2) := by decide +kernel
theorem dX6_bits_63 : decode cX6_bits 63 = .ok (.iload_n 1, 1) := by decide +kernel
theorem dX6_bits_64 : decode cX6_bits 64 = .ok (.i2l, 1) := by decide +kernel
theorem dX6_bits_65 : decode cX6_bits 65 = .ok (.lcmp, 1) := by decide +kernel
theorem dX6_bits_66 : decode cX6_bits 66 = .ok (.ifCond .ne 18, 3) := by decide +kernel
theorem dX6_bits_69 : decode cX6_bits 69 = .ok (.lload 5, 2) := by decide +kernel
theorem dX6_bits_71 : decode cX6_bits 71 = .ok (.ldc2_w 175, 3) := by decide +kernel
theorem dX6_bits_74 : decode cX6_bits 74 = .ok (.lrem, 1) := by decide +kernel
theorem dX6_bits_75 : decode cX6_bits 75 = .ok (.lconst 1, 1) := by decide +kernel
theorem dX6_bits_76 : decode cX6_bits 76 = .ok (.lcmp, 1) := by decide +kernel
theorem dX6_bits_77 : decode cX6_bits 77 = .ok (.ifCond .ne 7, 3) := by decide +kernel
theorem dX6_bits_80 : decode cX6_bits 80 = .ok (.lconst 1, 1) := by decide +kernel
theorem dX6_bits_81 : decode cX6_bits 81 = .ok (.goto 4, 3) := by decide +kernel
theorem dX6_bits_84 : decode cX6_bits 84 = .ok (.lconst 0, 1) := by decide +kernel
theorem dX6_bits_85 : decode cX6_bits 85 = .ok (.ladd, 1) := by decide +kernel
theorem dX6_bits_86 : decode cX6_bits 86 = .ok (.lstore 5, 2) := by decide +kernel
theorem dX6_bits_88 : decode cX6_bits 88 = .ok (.lload 5, 2) := by decide +kernel
theorem dX6_bits_90 : decode cX6_bits 90 = .ok (.ldc2_w 177, 3) := by decide +kernel
theorem dX6_bits_93 : decode cX6_bits 93 = .ok (.lcmp, 1) := by decide +kernel
theorem dX6_bits_94 : decode cX6_bits 94 = .ok (.ifCond .ne 11, 3) := by decide +kernel
theorem dX6_bits_97 : decode cX6_bits 97 = .ok (.ldc2_w 173, 3) := by decide +kernel
theorem dX6_bits_100 : decode cX6_bits 100 = .ok (.lstore 5, 2) := by decide +kernel
theorem dX6_bits_102 : decode cX6_bits 102 = .ok (.iinc 4 (-1), 3) := by decide +kernel
theorem dX6_bits_105 : decode cX6_bits 105 = .ok (.sipush 1075, 3) := by decide +kernel
theorem dX6_bits_108 : decode cX6_bits 108 = .ok (.iload 4, 2) := by decide +kernel
theorem dX6_bits_110 : decode cX6_bits 110 = .ok (.isub, 1) := by decide +kernel
theorem dX6_bits_111 : decode cX6_bits 111 = .ok (.i2l, 1) := by decide +kernel
theorem dX6_bits_112 : decode cX6_bits 112 = .ok (.ldc2_w 173, 3) := by decide +kernel
theorem dX6_bits_115 : decode cX6_bits 115 = .ok (.lmul, 1) := by decide +kernel
theorem dX6_bits_116 : decode cX6_bits 116 = .ok (.lload 5, 2) := by decide +kernel
theorem dX6_bits_118 : decode cX6_bits 118 = .ok (.ldc2_w 173, 3) := by decide +kernel
theorem dX6_bits_121 : decode cX6_bits 121 = .ok (.lsub, 1) := by decide +kernel
theorem dX6_bits_122 : decode cX6_bits 122 = .ok (.ladd, 1) := by decide +kernel
theorem dX6_bits_123 : decode cX6_bits 123 = .ok (.lreturn, 1) := by decide +kernel
theorem dX6_hashOfStalls_0 : decode cX6_hashOfStalls 0 = .ok (.lload_n 1, 1) := by decide +kernel
theorem dX6_hashOfStalls_1 : decode cX6_hashOfStalls 1 = .ok (.lstore_n 3, 1) := by decide +kernel
theorem dX6_hashOfStalls_2 : decode cX6_hashOfStalls 2 = .ok (.iconst 0, 1) := by decide +kernel
theorem dX6_hashOfStalls_3 : decode cX6_hashOfStalls 3 = .ok (.istore 5, 2) := by decide +kernel
theorem dX6_hashOfStalls_5 : decode cX6_hashOfStalls 5 = .ok (.iload 5, 2) := by decide +kernel
theorem dX6_hashOfStalls_7 : decode cX6_hashOfStalls 7 = .ok (.bipush 6, 2) := by decide +kernel
theorem dX6_hashOfStalls_9 : decode cX6_hashOfStalls 9 = .ok (.if_icmp .ge 177, 3) := by decide +kernel
theorem dX6_hashOfStalls_12 : decode cX6_hashOfStalls 12 = .ok (.aload_n 0, 1) := by decide +kernel
theorem dX6_hashOfStalls_13 : decode cX6_hashOfStalls 13 = .ok (.getfield 7, 3) := by decide +kernel
theorem dX6_hashOfStalls_16 : decode cX6_hashOfStalls 16 = .ok (.iload 5, 2) := by decide +kernel
theorem dX6_hashOfStalls_18 : decode cX6_hashOfStalls 18 = .ok (.iaload, 1) := by decide +kernel
theorem dX6_hashOfStalls_19 : decode cX6_hashOfStalls 19 = .ok (.invokestatic 40, 3) := by decide +kernel
theorem dX6_hashOfStalls_22 : decode cX6_hashOfStalls 22 = .ok (.istore 6, 2) := by decide +kernel
theorem dX6_hashOfStalls_24 : decode cX6_hashOfStalls 24 = .ok (.ldc2_w 179, 3) := by decide +kernel
theorem dX6_hashOfStalls_27 : decode cX6_hashOfStalls 27 = .ok (.lload_n 3, 1) := by decide +kernel
theorem dX6_hashOfStalls_28 : decode cX6_hashOfStalls 28 = .ok (.lmul, 1) := by decide +kernel
theorem dX6_hashOfStalls_29 : decode cX6_hashOfStalls 29 = .ok (.aload_n 0, 1) := by decide +kernel
theorem dX6_hashOfStalls_30 : decode cX6_hashOfStalls 30 = .ok (.getfield 7, 3) := by decide +kernel
theorem dX6_hashOfStalls_33 : decode cX6_hashOfStalls 33 = .ok (.iload 5, 2) := by decide +kernel
theorem dX6_hashOfStalls_35 : decode cX6_hashOfStalls 35 = .ok (.iaload, 1) := by decide +kernel
theorem dX6_hashOfStalls_36 : decode cX6_hashOfStalls 36 = .ok (.i2l, 1) := by decide +kernel
theorem dX6_hashOfStalls_37 : decode cX6_hashOfStalls 37 = .ok (.ladd, 1) := by decide +kernel
theorem dX6_hashOfStalls_38 : decode cX6_hashOfStalls 38 = .ok (.lstore_n 3, 1) := by decide +kernel
theorem dX6_hashOfStalls_39 : decode cX6_hashOfStalls 39 = .ok (.ldc2_w 179, 3) := by decide +kernel
theorem dX6_hashOfStalls_42 : decode cX6_hashOfStalls 42 = .ok (.lload_n 3, 1) := by decide +kernel
theorem dX6_hashOfStalls_43 : decode cX6_hashOfStalls 43 = .ok (.lmul, 1) := by decide +kernel
theorem dX6_hashOfStalls_44 : decode cX6_hashOfStalls 44 = .ok (.iload 6, 2) := by decide +kernel
theorem dX6_hashOfStalls_46 : decode cX6_hashOfStalls 46 = .ok (.i2l, 1) := by decide +kernel
theorem dX6_hashOfStalls_47 : decode cX6_hashOfStalls 47 = .ok (.ladd, 1) := by decide +kernel
theorem dX6_hashOfStalls_48 : decode cX6_hashOfStalls 48 = .ok (.lstore_n 3, 1) := by decide +kernel
theorem dX6_hashOfStalls_49 : decode cX6_hashOfStalls 49 = .ok (.ldc2_w 179, 3) := by decide +kernel
theorem dX6_hashOfStalls_52 : decode cX6_hashOfStalls 52 = .ok (.lload_n 3, 1) := by decide +kernel
theorem dX6_hashOfStalls_53 : decode cX6_hashOfStalls 53 = .ok (.lmul, 1) := by decide +kernel
theorem dX6_hashOfStalls_54 : decode cX6_hashOfStalls 54 = .ok (.aload_n 0, 1) := by decide +kernel
theorem dX6_hashOfStalls_55 : decode cX6_hashOfStalls 55 = .ok (.getfield 7, 3) := by decide +kernel
theorem dX6_hashOfStalls_58 : decode cX6_hashOfStalls 58 = .ok (.iload 5, 2) := by decide +kernel
theorem dX6_hashOfStalls_60 : decode cX6_hashOfStalls 60 = .ok (.iaload, 1) := by decide +kernel
theorem dX6_hashOfStalls_61 : decode cX6_hashOfStalls 61 = .ok (.invokestatic 150, 3) := by decide +kernel
theorem dX6_hashOfStalls_64 : decode cX6_hashOfStalls 64 = .ok (.i2l, 1) := by decide +kernel
theorem dX6_hashOfStalls_65 : decode cX6_hashOfStalls 65 = .ok (.ladd, 1) := by decide +kernel
theorem dX6_hashOfStalls_66 : decode cX6_hashOfStalls 66 = .ok (.lstore_n 3, 1) := by decide +kernel
theorem dX6_hashOfStalls_67 : decode cX6_hashOfStalls 67 = .ok (.ldc2_w 179, 3) := by decide +kernel
theorem dX6_hashOfStalls_70 : decode cX6_hashOfStalls 70 = .ok (.lload_n 3, 1) := by decide +kernel
theorem dX6_hashOfStalls_71 : decode cX6_hashOfStalls 71 = .ok (.lmul, 1) := by decide +kernel
theorem dX6_hashOfStalls_72 : decode cX6_hashOfStalls 72 = .ok (.aload_n 0, 1) := by decide +kernel
theorem dX6_hashOfStalls_73 : decode cX6_hashOfStalls 73 = .ok (.getfield 7, 3) := by decide +kernel
theorem dX6_hashOfStalls_76 : decode cX6_hashOfStalls 76 = .ok (.iload 5, 2) := by decide +kernel
theorem dX6_hashOfStalls_78 : decode cX6_hashOfStalls 78 = .ok (.iaload, 1) := by decide +kernel
theorem dX6_hashOfStalls_79 : decode cX6_hashOfStalls 79 = .ok (.invokestatic 153, 3) := by decide +kernel
theorem dX6_hashOfStalls_82 : decode cX6_hashOfStalls 82 = .ok (.i2l, 1) := by decide +kernel
theorem dX6_hashOfStalls_83 : decode cX6_hashOfStalls 83 = .ok (.ladd, 1) := by decide +kernel
theorem dX6_hashOfStalls_84 : decode cX6_hashOfStalls 84 = .ok (.lstore_n 3, 1) := by decide +kernel
theorem dX6_hashOfStalls_85 : decode cX6_hashOfStalls 85 = .ok (.ldc2_w 179, 3) := by decide +kernel
theorem dX6_hashOfStalls_88 : decode cX6_hashOfStalls 88 = .ok (.lload_n 3, 1) := by decide +kernel
theorem dX6_hashOfStalls_89 : decode cX6_hashOfStalls 89 = .ok (.lmul, 1) := by decide +kernel
theorem dX6_hashOfStalls_90 : decode cX6_hashOfStalls 90 = .ok (.aload_n 0, 1) := by decide +kernel
theorem dX6_hashOfStalls_91 : decode cX6_hashOfStalls 91 = .ok (.getfield 7, 3) := by decide +kernel
theorem dX6_hashOfStalls_94 : decode cX6_hashOfStalls 94 = .ok (.iload 5, 2) := by decide +kernel
theorem dX6_hashOfStalls_96 : decode cX6_hashOfStalls 96 = .ok (.iaload, 1) := by decide +kernel
theorem dX6_hashOfStalls_97 : decode cX6_hashOfStalls 97 = .ok (.invokestatic 153, 3) := by decide +kernel
theorem dX6_hashOfStalls_100 : decode cX6_hashOfStalls 100 = .ok (.i2l, 1) := by decide +kernel
theorem dX6_hashOfStalls_101 : decode cX6_hashOfStalls 101 = .ok (.ladd, 1) := by decide +kernel
theorem dX6_hashOfStalls_102 : decode cX6_hashOfStalls 102 = .ok (.lstore_n 3, 1) := by decide +kernel
theorem dX6_hashOfStalls_103 : decode cX6_hashOfStalls 103 = .ok (.ldc2_w 179, 3) := by decide +kernel
theorem dX6_hashOfStalls_106 : decode cX6_hashOfStalls 106 = .ok (.lload_n 3, 1) := by decide +kernel
theorem dX6_hashOfStalls_107 : decode cX6_hashOfStalls 107 = .ok (.lmul, 1) := by decide +kernel
theorem dX6_hashOfStalls_108 : decode cX6_hashOfStalls 108 = .ok (.iload 6, 2) := by decide +kernel
theorem dX6_hashOfStalls_110 : decode cX6_hashOfStalls 110 = .ok (.invokestatic 47, 3) := by decide +kernel
theorem dX6_hashOfStalls_113 : decode cX6_hashOfStalls 113 = .ok (.i2l, 1) := by decide +kernel
theorem dX6_hashOfStalls_114 : decode cX6_hashOfStalls 114 = .ok (.ladd, 1) := by decide +kernel
theorem dX6_hashOfStalls_115 : decode cX6_hashOfStalls 115 = .ok (.lstore_n 3, 1) := by decide +kernel
theorem dX6_hashOfStalls_116 : decode cX6_hashOfStalls 116 = .ok (.iconst 0, 1) := by decide +kernel
theorem dX6_hashOfStalls_117 : decode cX6_hashOfStalls 117 = .ok (.istore 7, 2) := by decide +kernel
theorem dX6_hashOfStalls_119 : decode cX6_hashOfStalls 119 = .ok (.iload 7, 2) := by decide +kernel
theorem dX6_hashOfStalls_121 : decode cX6_hashOfStalls 121 = .ok (.iconst 3, 1) := by decide +kernel
theorem dX6_hashOfStalls_122 : decode cX6_hashOfStalls 122 = .ok (.if_icmp .ge 58, 3) := by decide +kernel
theorem dX6_hashOfStalls_125 : decode cX6_hashOfStalls 125 = .ok (.ldc2_w 179, 3) := by decide +kernel
theorem dX6_hashOfStalls_128 : decode cX6_hashOfStalls 128 = .ok (.lload_n 3, 1) := by decide +kernel
theorem dX6_hashOfStalls_129 : decode cX6_hashOfStalls 129 = .ok (.lmul, 1) := by decide +kernel
theorem dX6_hashOfStalls_130 : decode cX6_hashOfStalls 130 = .ok (.iload 6, 2) := by decide +kernel
theorem dX6_hashOfStalls_132 : decode cX6_hashOfStalls 132 = .ok (.invokestatic 47, 3) := by decide +kernel
theorem dX6_hashOfStalls_135 : decode cX6_hashOfStalls 135 = .ok (.i2l, 1) := by decide +kernel
theorem dX6_hashOfStalls_136 : decode cX6_hashOfStalls 136 = .ok (.ladd, 1) := by decide +kernel
theorem dX6_hashOfStalls_137 : decode cX6_hashOfStalls 137 = .ok (.lstore_n 3, 1) := by decide +kernel
theorem dX6_hashOfStalls_138 : decode cX6_hashOfStalls 138 = .ok (.iconst 0, 1) := by decide +kernel
theorem dX6_hashOfStalls_139 : decode cX6_hashOfStalls 139 = .ok (.istore 8, 2) := by decide +kernel
theorem dX6_hashOfStalls_141 : decode cX6_hashOfStalls 141 = .ok (.iload 8, 2) := by decide +kernel
theorem dX6_hashOfStalls_143 : decode cX6_hashOfStalls 143 = .ok (.iload 6, 2) := by decide +kernel
theorem dX6_hashOfStalls_145 : decode cX6_hashOfStalls 145 = .ok (.invokestatic 47, 3) := by decide +kernel
theorem dX6_hashOfStalls_148 : decode cX6_hashOfStalls 148 = .ok (.if_icmp .ge 26, 3) := by decide +kernel
theorem dX6_hashOfStalls_151 : decode cX6_hashOfStalls 151 = .ok (.ldc2_w 179, 3) := by decide +kernel
theorem dX6_hashOfStalls_154 : decode cX6_hashOfStalls 154 = .ok (.lload_n 3, 1) := by decide +kernel
theorem dX6_hashOfStalls_155 : decode cX6_hashOfStalls 155 = .ok (.lmul, 1) := by decide +kernel
theorem dX6_hashOfStalls_156 : decode cX6_hashOfStalls 156 = .ok (.iload 7, 2) := by decide +kernel
theorem dX6_hashOfStalls_158 : decode cX6_hashOfStalls 158 = .ok (.iload 6, 2) := by decide +kernel
theorem dX6_hashOfStalls_160 : decode cX6_hashOfStalls 160 = .ok (.iload 8, 2) := by decide +kernel
theorem dX6_hashOfStalls_162 : decode cX6_hashOfStalls 162 = .ok (.invokestatic 156, 3) := by decide +kernel
theorem dX6_hashOfStalls_165 : decode cX6_hashOfStalls 165 = .ok (.i2l, 1) := by decide +kernel
theorem dX6_hashOfStalls_166 : decode cX6_hashOfStalls 166 = .ok (.ladd, 1) := by decide +kernel
theorem dX6_hashOfStalls_167 : decode cX6_hashOfStalls 167 = .ok (.lstore_n 3, 1) := by decide +kernel
theorem dX6_hashOfStalls_168 : decode cX6_hashOfStalls 168 = .ok (.iinc 8 1, 3) := by decide +kernel
theorem dX6_hashOfStalls_171 : decode cX6_hashOfStalls 171 = .ok (.goto (-30), 3) := by decide +kernel
theorem dX6_hashOfStalls_174 : decode cX6_hashOfStalls 174 = .ok (.iinc 7 1, 3) := by decide +kernel
theorem dX6_hashOfStalls_177 : decode cX6_hashOfStalls 177 = .ok (.goto (-58), 3) := by decide +kernel
theorem dX6_hashOfStalls_180 : decode cX6_hashOfStalls 180 = .ok (.iinc 5 1, 3) := by decide +kernel
theorem dX6_hashOfStalls_183 : decode cX6_hashOfStalls 183 = .ok (.goto (-178), 3) := by decide +kernel
theorem dX6_hashOfStalls_186 : decode cX6_hashOfStalls 186 = .ok (.iconst 0, 1) := by decide +kernel
theorem dX6_hashOfStalls_187 : decode cX6_hashOfStalls 187 = .ok (.istore 5, 2) := by decide +kernel
theorem dX6_hashOfStalls_189 : decode cX6_hashOfStalls 189 = .ok (.iload 5, 2) := by decide +kernel
theorem dX6_hashOfStalls_191 : decode cX6_hashOfStalls 191 = .ok (.bipush 6, 2) := by decide +kernel
theorem dX6_hashOfStalls_193 : decode cX6_hashOfStalls 193 = .ok (.if_icmp .ge 58, 3) := by decide +kernel
theorem dX6_hashOfStalls_196 : decode cX6_hashOfStalls 196 = .ok (.ldc2_w 179, 3) := by decide +kernel
theorem dX6_hashOfStalls_199 : decode cX6_hashOfStalls 199 = .ok (.lload_n 3, 1) := by decide +kernel
theorem dX6_hashOfStalls_200 : decode cX6_hashOfStalls 200 = .ok (.lmul, 1) := by decide +kernel
theorem dX6_hashOfStalls_201 : decode cX6_hashOfStalls 201 = .ok (.aload_n 0, 1) := by decide +kernel
theorem dX6_hashOfStalls_202 : decode cX6_hashOfStalls 202 = .ok (.aload_n 0, 1) := by decide +kernel
theorem dX6_hashOfStalls_203 : decode cX6_hashOfStalls 203 = .ok (.getfield 7, 3) := by decide +kernel
theorem dX6_hashOfStalls_206 : decode cX6_hashOfStalls 206 = .ok (.iload 5, 2) := by decide +kernel
theorem dX6_hashOfStalls_208 : decode cX6_hashOfStalls 208 = .ok (.iaload, 1) := by decide +kernel
theorem dX6_hashOfStalls_209 : decode cX6_hashOfStalls 209 = .ok (.invokestatic 40, 3) := by decide +kernel
theorem dX6_hashOfStalls_212 : decode cX6_hashOfStalls 212 = .ok (.aload_n 0, 1) := by decide +kernel
theorem dX6_hashOfStalls_213 : decode cX6_hashOfStalls 213 = .ok (.getfield 7, 3) := by decide +kernel
theorem dX6_hashOfStalls_216 : decode cX6_hashOfStalls 216 = .ok (.iload 5, 2) := by decide +kernel
theorem dX6_hashOfStalls_218 : decode cX6_hashOfStalls 218 = .ok (.iconst 1, 1) := by decide +kernel
theorem dX6_hashOfStalls_219 : decode cX6_hashOfStalls 219 = .ok (.iadd, 1) := by decide +kernel
theorem dX6_hashOfStalls_220 : decode cX6_hashOfStalls 220 = .ok (.bipush 6, 2) := by decide +kernel
theorem dX6_hashOfStalls_222 : decode cX6_hashOfStalls 222 = .ok (.irem, 1) := by decide +kernel
theorem dX6_hashOfStalls_223 : decode cX6_hashOfStalls 223 = .ok (.iaload, 1) := by decide +kernel
theorem dX6_hashOfStalls_224 : decode cX6_hashOfStalls 224 = .ok (.invokestatic 40, 3) := by decide +kernel
theorem dX6_hashOfStalls_227 : decode cX6_hashOfStalls 227 = .ok (.invokevirtual 75, 3) := by decide +kernel
theorem dX6_hashOfStalls_230 : decode cX6_hashOfStalls 230 = .ok (.i2l, 1) := by decide +kernel
theorem dX6_hashOfStalls_231 : decode cX6_hashOfStalls 231 = .ok (.ladd, 1) := by decide +kernel
theorem dX6_hashOfStalls_232 : decode cX6_hashOfStalls 232 = .ok (.lstore_n 3, 1) := by decide +kernel
theorem dX6_hashOfStalls_233 : decode cX6_hashOfStalls 233 = .ok (.ldc2_w 179, 3) := by decide +kernel
theorem dX6_hashOfStalls_236 : decode cX6_hashOfStalls 236 = .ok (.lload_n 3, 1) := by decide +kernel
theorem dX6_hashOfStalls_237 : decode cX6_hashOfStalls 237 = .ok (.lmul, 1) := by decide +kernel
theorem dX6_hashOfStalls_238 : decode cX6_hashOfStalls 238 = .ok (.aload_n 0, 1) := by decide +kernel
theorem dX6_hashOfStalls_239 : decode cX6_hashOfStalls 239 = .ok (.getfield 50, 3) := by decide +kernel
theorem dX6_hashOfStalls_242 : decode cX6_hashOfStalls 242 = .ok (.i2l, 1) := by decide +kernel
theorem dX6_hashOfStalls_243 : decode cX6_hashOfStalls 243 = .ok (.ladd, 1) := by decide +kernel
theorem dX6_hashOfStalls_244 : decode cX6_hashOfStalls 244 = .ok (.lstore_n 3, 1) := by decide +kernel
theorem dX6_hashOfStalls_245 : decode cX6_hashOfStalls 245 = .ok (.iinc 5 1, 3) := by decide +kernel
theorem dX6_hashOfStalls_248 : decode cX6_hashOfStalls 248 = .ok (.goto (-59), 3) := by decide +kernel
theorem dX6_hashOfStalls_251 : decode cX6_hashOfStalls 251 = .ok (.lload_n 3, 1) := by decide +kernel
theorem dX6_hashOfStalls_252 : decode cX6_hashOfStalls 252 = .ok (.lreturn, 1) := by decide +kernel
theorem dX6_digest_0 : decode cX6_digest 0 = .ok (.ldc2_w 181, 3) := by decide +kernel
theorem dX6_digest_3 : decode cX6_digest 3 = .ok (.lstore_n 1, 1) := by decide +kernel
theorem dX6_digest_4 : decode cX6_digest 4 = .ok (.ldc2_w 179, 3) := by decide +kernel
theorem dX6_digest_7 : decode cX6_digest 7 = .ok (.lload_n 1, 1) := by decide +kernel
theorem dX6_digest_8 : decode cX6_digest 8 = .ok (.lmul, 1) := by decide +kernel
theorem dX6_digest_9 : decode cX6_digest 9 = .ok (.aload_n 0, 1) := by decide +kernel
theorem dX6_digest_10 : decode cX6_digest 10 = .ok (.invokevirtual 146, 3) := by decide +kernel
theorem dX6_digest_13 : decode cX6_digest 13 = .ok (.i2l, 1) := by decide +kernel
theorem dX6_digest_14 : decode cX6_digest 14 = .ok (.ladd, 1) := by decide +kernel
theorem dX6_digest_15 : decode cX6_digest 15 = .ok (.lstore_n 1, 1) := by decide +kernel
theorem dX6_digest_16 : decode cX6_digest 16 = .ok (.ldc2_w 179, 3) := by decide +kernel
theorem dX6_digest_19 : decode cX6_digest 19 = .ok (.lload_n 1, 1) := by decide +kernel
theorem dX6_digest_20 : decode cX6_digest 20 = .ok (.lmul, 1) := by decide +kernel
theorem dX6_digest_21 : decode cX6_digest 21 = .ok (.aload_n 0, 1) := by decide +kernel
theorem dX6_digest_22 : decode cX6_digest 22 = .ok (.invokevirtual 160, 3) := by decide +kernel
theorem dX6_digest_25 : decode cX6_digest 25 = .ok (.i2l, 1) := by decide +kernel
theorem dX6_digest_26 : decode cX6_digest 26 = .ok (.ladd, 1) := by decide +kernel
theorem dX6_digest_27 : decode cX6_digest 27 = .ok (.lstore_n 1, 1) := by decide +kernel
theorem dX6_digest_28 : decode cX6_digest 28 = .ok (.ldc2_w 179, 3) := by decide +kernel
theorem dX6_digest_31 : decode cX6_digest 31 = .ok (.lload_n 1, 1) := by decide +kernel
theorem dX6_digest_32 : decode cX6_digest 32 = .ok (.lmul, 1) := by decide +kernel
theorem dX6_digest_33 : decode cX6_digest 33 = .ok (.aload_n 0, 1) := by decide +kernel
theorem dX6_digest_34 : decode cX6_digest 34 = .ok (.getfield 26, 3) := by decide +kernel
theorem dX6_digest_37 : decode cX6_digest 37 = .ok (.i2l, 1) := by decide +kernel
theorem dX6_digest_38 : decode cX6_digest 38 = .ok (.ladd, 1) := by decide +kernel
theorem dX6_digest_39 : decode cX6_digest 39 = .ok (.lstore_n 1, 1) := by decide +kernel
theorem dX6_digest_40 : decode cX6_digest 40 = .ok (.aload_n 0, 1) := by decide +kernel
theorem dX6_digest_41 : decode cX6_digest 41 = .ok (.lload_n 1, 1) := by decide +kernel
theorem dX6_digest_42 : decode cX6_digest 42 = .ok (.invokevirtual 183, 3) := by decide +kernel
theorem dX6_digest_45 : decode cX6_digest 45 = .ok (.lstore_n 1, 1) := by decide +kernel
theorem dX6_digest_46 : decode cX6_digest 46 = .ok (.ldc2_w 179, 3) := by decide +kernel
theorem dX6_digest_49 : decode cX6_digest 49 = .ok (.lload_n 1, 1) := by decide +kernel
theorem dX6_digest_50 : decode cX6_digest 50 = .ok (.lmul, 1) := by decide +kernel
theorem dX6_digest_51 : decode cX6_digest 51 = .ok (.aload_n 0, 1) := by decide +kernel
theorem dX6_digest_52 : decode cX6_digest 52 = .ok (.getfield 7, 3) := by decide +kernel
theorem dX6_digest_55 : decode cX6_digest 55 = .ok (.iconst 0, 1) := by decide +kernel
theorem dX6_digest_56 : decode cX6_digest 56 = .ok (.iaload, 1) := by decide +kernel
theorem dX6_digest_57 : decode cX6_digest 57 = .ok (.invokestatic 40, 3) := by decide +kernel
theorem dX6_digest_60 : decode cX6_digest 60 = .ok (.i2l, 1) := by decide +kernel
theorem dX6_digest_61 : decode cX6_digest 61 = .ok (.ladd, 1) := by decide +kernel
theorem dX6_digest_62 : decode cX6_digest 62 = .ok (.lstore_n 1, 1) := by decide +kernel
theorem dX6_digest_63 : decode cX6_digest 63 = .ok (.ldc2_w 179, 3) := by decide +kernel
theorem dX6_digest_66 : decode cX6_digest 66 = .ok (.lload_n 1, 1) := by decide +kernel
theorem dX6_digest_67 : decode cX6_digest 67 = .ok (.lmul, 1) := by decide +kernel
theorem dX6_digest_68 : decode cX6_digest 68 = .ok (.aload_n 0, 1) := by decide +kernel
theorem dX6_digest_69 : decode cX6_digest 69 = .ok (.getfield 7, 3) := by decide +kernel
theorem dX6_digest_72 : decode cX6_digest 72 = .ok (.bipush 6, 2) := by decide +kernel
theorem dX6_digest_74 : decode cX6_digest 74 = .ok (.iaload, 1) := by decide +kernel
theorem dX6_digest_75 : decode cX6_digest 75 = .ok (.i2l, 1) := by decide +kernel
theorem dX6_digest_76 : decode cX6_digest 76 = .ok (.ladd, 1) := by decide +kernel
theorem dX6_digest_77 : decode cX6_digest 77 = .ok (.lstore_n 1, 1) := by decide +kernel
theorem dX6_digest_78 : decode cX6_digest 78 = .ok (.iconst 0, 1) := by decide +kernel
theorem dX6_digest_79 : decode cX6_digest 79 = .ok (.istore_n 3, 1) := by decide +kernel
theorem dX6_digest_80 : decode cX6_digest 80 = .ok (.iload_n 3, 1) := by decide +kernel
theorem dX6_digest_81 : decode cX6_digest 81 = .ok (.aload_n 0, 1) := by decide +kernel
theorem dX6_digest_82 : decode cX6_digest 82 = .ok (.getfield 7, 3) := by decide +kernel
theorem dX6_digest_85 : decode cX6_digest 85 = .ok (.bipush 6, 2) := by decide +kernel
theorem dX6_digest_87 : decode cX6_digest 87 = .ok (.iaload, 1) := by decide +kernel
theorem dX6_digest_88 : decode cX6_digest 88 = .ok (.if_icmp .ge 26, 3) := by decide +kernel
theorem dX6_digest_91 : decode cX6_digest 91 = .ok (.ldc2_w 179, 3) := by decide +kernel
theorem dX6_digest_94 : decode cX6_digest 94 = .ok (.lload_n 1, 1) := by decide +kernel
theorem dX6_digest_95 : decode cX6_digest 95 = .ok (.lmul, 1) := by decide +kernel
theorem dX6_digest_96 : decode cX6_digest 96 = .ok (.aload_n 0, 1) := by decide +kernel
theorem dX6_digest_97 : decode cX6_digest 97 = .ok (.getfield 7, 3) := by decide +kernel
theorem dX6_digest_100 : decode cX6_digest 100 = .ok (.bipush 7, 2) := by decide +kernel
theorem dX6_digest_102 : decode cX6_digest 102 = .ok (.iload_n 3, 1) := by decide +kernel
theorem dX6_digest_103 : decode cX6_digest 103 = .ok (.iadd, 1) := by decide +kernel
theorem dX6_digest_104 : decode cX6_digest 104 = .ok (.iaload, 1) := by decide +kernel
theorem dX6_digest_105 : decode cX6_digest 105 = .ok (.i2l, 1) := by decide +kernel
theorem dX6_digest_106 : decode cX6_digest 106 = .ok (.ladd, 1) := by decide +kernel
theorem dX6_digest_107 : decode cX6_digest 107 = .ok (.lstore_n 1, 1) := by decide +kernel
theorem dX6_digest_108 : decode cX6_digest 108 = .ok (.iinc 3 1, 3) := by decide +kernel
theorem dX6_digest_111 : decode cX6_digest 111 = .ok (.goto (-31), 3) := by decide +kernel
theorem dX6_digest_114 : decode cX6_digest 114 = .ok (.aload_n 0, 1) := by decide +kernel
theorem dX6_digest_115 : decode cX6_digest 115 = .ok (.invokevirtual 163, 3) := by decide +kernel
theorem dX6_digest_118 : decode cX6_digest 118 = .ok (.istore_n 3, 1) := by decide +kernel
theorem dX6_digest_119 : decode cX6_digest 119 = .ok (.ldc2_w 179, 3) := by decide +kernel
theorem dX6_digest_122 : decode cX6_digest 122 = .ok (.lload_n 1, 1) := by decide +kernel
theorem dX6_digest_123 : decode cX6_digest 123 = .ok (.lmul, 1) := by decide +kernel
theorem dX6_digest_124 : decode cX6_digest 124 = .ok (.iload_n 3, 1) := by decide +kernel
theorem dX6_digest_125 : decode cX6_digest 125 = .ok (.i2l, 1) := by decide +kernel
theorem dX6_digest_126 : decode cX6_digest 126 = .ok (.ladd, 1) := by decide +kernel
theorem dX6_digest_127 : decode cX6_digest 127 = .ok (.lstore_n 1, 1) := by decide +kernel
theorem dX6_digest_128 : decode cX6_digest 128 = .ok (.iconst 0, 1) := by decide +kernel
theorem dX6_digest_129 : decode cX6_digest 129 = .ok (.istore 4, 2) := by decide +kernel
theorem dX6_digest_131 : decode cX6_digest 131 = .ok (.iload 4, 2) := by decide +kernel
theorem dX6_digest_133 : decode cX6_digest 133 = .ok (.iload_n 3, 1) := by decide +kernel
theorem dX6_digest_134 : decode cX6_digest 134 = .ok (.if_icmp .ge 24, 3) := by decide +kernel
theorem dX6_digest_137 : decode cX6_digest 137 = .ok (.ldc2_w 179, 3) := by decide +kernel
theorem dX6_digest_140 : decode cX6_digest 140 = .ok (.lload_n 1, 1) := by decide +kernel
theorem dX6_digest_141 : decode cX6_digest 141 = .ok (.lmul, 1) := by decide +kernel
theorem dX6_digest_142 : decode cX6_digest 142 = .ok (.aload_n 0, 1) := by decide +kernel
theorem dX6_digest_143 : decode cX6_digest 143 = .ok (.getfield 19, 3) := by decide +kernel
theorem dX6_digest_146 : decode cX6_digest 146 = .ok (.iload 4, 2) := by decide +kernel
theorem dX6_digest_148 : decode cX6_digest 148 = .ok (.iaload, 1) := by decide +kernel
theorem dX6_digest_149 : decode cX6_digest 149 = .ok (.i2l, 1) := by decide +kernel
theorem dX6_digest_150 : decode cX6_digest 150 = .ok (.ladd, 1) := by decide +kernel
theorem dX6_digest_151 : decode cX6_digest 151 = .ok (.lstore_n 1, 1) := by decide +kernel
theorem dX6_digest_152 : decode cX6_digest 152 = .ok (.iinc 4 1, 3) := by decide +kernel
theorem dX6_digest_155 : decode cX6_digest 155 = .ok (.goto (-24), 3) := by decide +kernel
theorem dX6_digest_158 : decode cX6_digest 158 = .ok (.ldc2_w 179, 3) := by decide +kernel
theorem dX6_digest_161 : decode cX6_digest 161 = .ok (.lload_n 1, 1) := by decide +kernel
theorem dX6_digest_162 : decode cX6_digest 162 = .ok (.lmul, 1) := by decide +kernel
theorem dX6_digest_163 : decode cX6_digest 163 = .ok (.aload_n 0, 1) := by decide +kernel
theorem dX6_digest_164 : decode cX6_digest 164 = .ok (.getfield 99, 3) := by decide +kernel
theorem dX6_digest_167 : decode cX6_digest 167 = .ok (.i2l, 1) := by decide +kernel
theorem dX6_digest_168 : decode cX6_digest 168 = .ok (.ladd, 1) := by decide +kernel
theorem dX6_digest_169 : decode cX6_digest 169 = .ok (.lstore_n 1, 1) := by decide +kernel
theorem dX6_digest_170 : decode cX6_digest 170 = .ok (.ldc2_w 179, 3) := by decide +kernel
theorem dX6_digest_173 : decode cX6_digest 173 = .ok (.lload_n 1, 1) := by decide +kernel
theorem dX6_digest_174 : decode cX6_digest 174 = .ok (.lmul, 1) := by decide +kernel
theorem dX6_digest_175 : decode cX6_digest 175 = .ok (.aload_n 0, 1) := by decide +kernel
theorem dX6_digest_176 : decode cX6_digest 176 = .ok (.getfield 102, 3) := by decide +kernel
theorem dX6_digest_179 : decode cX6_digest 179 = .ok (.i2l, 1) := by decide +kernel
theorem dX6_digest_180 : decode cX6_digest 180 = .ok (.ladd, 1) := by decide +kernel
theorem dX6_digest_181 : decode cX6_digest 181 = .ok (.lstore_n 1, 1) := by decide +kernel
theorem dX6_digest_182 : decode cX6_digest 182 = .ok (.aload_n 0, 1) := by decide +kernel
theorem dX6_digest_183 : decode cX6_digest 183 = .ok (.getfield 7, 3) := by decide +kernel
theorem dX6_digest_186 : decode cX6_digest 186 = .ok (.bipush 6, 2) := by decide +kernel
theorem dX6_digest_188 : decode cX6_digest 188 = .ok (.iaload, 1) := by decide +kernel
theorem dX6_digest_189 : decode cX6_digest 189 = .ok (.ifCond .le 16, 3) := by decide +kernel
theorem dX6_digest_192 : decode cX6_digest 192 = .ok (.ldc2_w 179, 3) := by decide +kernel
theorem dX6_digest_195 : decode cX6_digest 195 = .ok (.lload_n 1, 1) := by decide +kernel
theorem dX6_digest_196 : decode cX6_digest 196 = .ok (.lmul, 1) := by decide +kernel
theorem dX6_digest_197 : decode cX6_digest 197 = .ok (.aload_n 0, 1) := by decide +kernel
theorem dX6_digest_198 : decode cX6_digest 198 = .ok (.iconst 0, 1) := by decide +kernel
theorem dX6_digest_199 : decode cX6_digest 199 = .ok (.invokevirtual 166, 3) := by decide +kernel
theorem dX6_digest_202 : decode cX6_digest 202 = .ok (.i2l, 1) := by decide +kernel
theorem dX6_digest_203 : decode cX6_digest 203 = .ok (.ladd, 1) := by decide +kernel
theorem dX6_digest_204 : decode cX6_digest 204 = .ok (.lstore_n 1, 1) := by decide +kernel
theorem dX6_digest_205 : decode cX6_digest 205 = .ok (.ldc2_w 179, 3) := by decide +kernel
theorem dX6_digest_208 : decode cX6_digest 208 = .ok (.lload_n 1, 1) := by decide +kernel
theorem dX6_digest_209 : decode cX6_digest 209 = .ok (.lmul, 1) := by decide +kernel
theorem dX6_digest_210 : decode cX6_digest 210 = .ok (.aload_n 0, 1) := by decide +kernel
theorem dX6_digest_211 : decode cX6_digest 211 = .ok (.getfield 7, 3) := by decide +kernel
theorem dX6_digest_214 : decode cX6_digest 214 = .ok (.bipush 71, 2) := by decide +kernel
theorem dX6_digest_216 : decode cX6_digest 216 = .ok (.iaload, 1) := by decide +kernel
theorem dX6_digest_217 : decode cX6_digest 217 = .ok (.i2l, 1) := by decide +kernel
theorem dX6_digest_218 : decode cX6_digest 218 = .ok (.ladd, 1) := by decide +kernel
theorem dX6_digest_219 : decode cX6_digest 219 = .ok (.lstore_n 1, 1) := by decide +kernel
theorem dX6_digest_220 : decode cX6_digest 220 = .ok (.aload_n 0, 1) := by decide +kernel
theorem dX6_digest_221 : decode cX6_digest 221 = .ok (.getfield 7, 3) := by decide +kernel
theorem dX6_digest_224 : decode cX6_digest 224 = .ok (.bipush 71, 2) := by decide +kernel
theorem dX6_digest_226 : decode cX6_digest 226 = .ok (.iaload, 1) := by decide +kernel
theorem dX6_digest_227 : decode cX6_digest 227 = .ok (.iconst 1, 1) := by decide +kernel
theorem dX6_digest_228 : decode cX6_digest 228 = .ok (.if_icmp .ne 33, 3) := by decide +kernel
theorem dX6_digest_231 : decode cX6_digest 231 = .ok (.ldc2_w 179, 3) := by decide +kernel
theorem dX6_digest_234 : decode cX6_digest 234 = .ok (.lload_n 1, 1) := by decide +kernel
theorem dX6_digest_235 : decode cX6_digest 235 = .ok (.lmul, 1) := by decide +kernel
theorem dX6_digest_236 : decode cX6_digest 236 = .ok (.aload_n 0, 1) := by decide +kernel
theorem dX6_digest_237 : decode cX6_digest 237 = .ok (.getfield 7, 3) := by decide +kernel
theorem dX6_digest_240 : decode cX6_digest 240 = .ok (.bipush 72, 2) := by decide +kernel
theorem dX6_digest_242 : decode cX6_digest 242 = .ok (.iaload, 1) := by decide +kernel
theorem dX6_digest_243 : decode cX6_digest 243 = .ok (.i2l, 1) := by decide +kernel
theorem dX6_digest_244 : decode cX6_digest 244 = .ok (.ladd, 1) := by decide +kernel
theorem dX6_digest_245 : decode cX6_digest 245 = .ok (.lstore_n 1, 1) := by decide +kernel
theorem dX6_digest_246 : decode cX6_digest 246 = .ok (.ldc2_w 179, 3) := by decide +kernel
theorem dX6_digest_249 : decode cX6_digest 249 = .ok (.lload_n 1, 1) := by decide +kernel
theorem dX6_digest_250 : decode cX6_digest 250 = .ok (.lmul, 1) := by decide +kernel
theorem dX6_digest_251 : decode cX6_digest 251 = .ok (.aload_n 0, 1) := by decide +kernel
theorem dX6_digest_252 : decode cX6_digest 252 = .ok (.getfield 7, 3) := by decide +kernel
theorem dX6_digest_255 : decode cX6_digest 255 = .ok (.bipush 73, 2) := by decide +kernel
theorem dX6_digest_257 : decode cX6_digest 257 = .ok (.iaload, 1) := by decide +kernel
theorem dX6_digest_258 : decode cX6_digest 258 = .ok (.i2l, 1) := by decide +kernel
theorem dX6_digest_259 : decode cX6_digest 259 = .ok (.ladd, 1) := by decide +kernel
theorem dX6_digest_260 : decode cX6_digest 260 = .ok (.lstore_n 1, 1) := by decide +kernel
theorem dX6_digest_261 : decode cX6_digest 261 = .ok (.ldc2_w 179, 3) := by decide +kernel
theorem dX6_digest_264 : decode cX6_digest 264 = .ok (.lload_n 1, 1) := by decide +kernel
theorem dX6_digest_265 : decode cX6_digest 265 = .ok (.lmul, 1) := by decide +kernel
theorem dX6_digest_266 : decode cX6_digest 266 = .ok (.aload_n 0, 1) := by decide +kernel
theorem dX6_digest_267 : decode cX6_digest 267 = .ok (.iconst 1, 1) := by decide +kernel
theorem dX6_digest_268 : decode cX6_digest 268 = .ok (.invokevirtual 169, 3) := by decide +kernel
theorem dX6_digest_271 : decode cX6_digest 271 = .ok (.ifCond .ne 9, 3) := by decide +kernel
theorem dX6_digest_274 : decode cX6_digest 274 = .ok (.ldc2_w 187, 3) := by decide +kernel
theorem dX6_digest_277 : decode cX6_digest 277 = .ok (.goto 16, 3) := by decide +kernel
theorem dX6_digest_280 : decode cX6_digest 280 = .ok (.aload_n 0, 1) := by decide +kernel
theorem dX6_digest_281 : decode cX6_digest 281 = .ok (.iconst 0, 1) := by decide +kernel
theorem dX6_digest_282 : decode cX6_digest 282 = .ok (.invokevirtual 169, 3) := by decide +kernel
theorem dX6_digest_285 : decode cX6_digest 285 = .ok (.aload_n 0, 1) := by decide +kernel
theorem dX6_digest_286 : decode cX6_digest 286 = .ok (.iconst 1, 1) := by decide +kernel
theorem dX6_digest_287 : decode cX6_digest 287 = .ok (.invokevirtual 169, 3) := by decide +kernel
theorem dX6_digest_290 : decode cX6_digest 290 = .ok (.invokestatic 189, 3) := by decide +kernel
theorem dX6_digest_293 : decode cX6_digest 293 = .ok (.ladd, 1) := by decide +kernel
theorem dX6_digest_294 : decode cX6_digest 294 = .ok (.lstore_n 1, 1) := by decide +kernel
theorem dX6_digest_295 : decode cX6_digest 295 = .ok (.ldc2_w 179, 3) := by decide +kernel
theorem dX6_digest_298 : decode cX6_digest 298 = .ok (.lload_n 1, 1) := by decide +kernel
theorem dX6_digest_299 : decode cX6_digest 299 = .ok (.lmul, 1) := by decide +kernel
theorem dX6_digest_300 : decode cX6_digest 300 = .ok (.aload_n 0, 1) := by decide +kernel
theorem dX6_digest_301 : decode cX6_digest 301 = .ok (.getfield 105, 3) := by decide +kernel
theorem dX6_digest_304 : decode cX6_digest 304 = .ok (.i2l, 1) := by decide +kernel
theorem dX6_digest_305 : decode cX6_digest 305 = .ok (.ladd, 1) := by decide +kernel
theorem dX6_digest_306 : decode cX6_digest 306 = .ok (.lstore_n 1, 1) := by decide +kernel
theorem dX6_digest_307 : decode cX6_digest 307 = .ok (.iconst 0, 1) := by decide +kernel
theorem dX6_digest_308 : decode cX6_digest 308 = .ok (.istore 4, 2) := by decide +kernel
theorem dX6_digest_310 : decode cX6_digest 310 = .ok (.iload 4, 2) := by decide +kernel
theorem dX6_digest_312 : decode cX6_digest 312 = .ok (.aload_n 0, 1) := by decide +kernel
theorem dX6_digest_313 : decode cX6_digest 313 = .ok (.getfield 105, 3) := by decide +kernel
theorem dX6_digest_316 : decode cX6_digest 316 = .ok (.if_icmp .ge 24, 3) := by decide +kernel
theorem dX6_digest_319 : decode cX6_digest 319 = .ok (.ldc2_w 179, 3) := by decide +kernel
theorem dX6_digest_322 : decode cX6_digest 322 = .ok (.lload_n 1, 1) := by decide +kernel
theorem dX6_digest_323 : decode cX6_digest 323 = .ok (.lmul, 1) := by decide +kernel
theorem dX6_digest_324 : decode cX6_digest 324 = .ok (.aload_n 0, 1) := by decide +kernel
theorem dX6_digest_325 : decode cX6_digest 325 = .ok (.getfield 13, 3) := by decide +kernel
theorem dX6_digest_328 : decode cX6_digest 328 = .ok (.iload 4, 2) := by decide +kernel
theorem dX6_digest_330 : decode cX6_digest 330 = .ok (.iaload, 1) := by decide +kernel
theorem dX6_digest_331 : decode cX6_digest 331 = .ok (.i2l, 1) := by decide +kernel
theorem dX6_digest_332 : decode cX6_digest 332 = .ok (.ladd, 1) := by decide +kernel
theorem dX6_digest_333 : decode cX6_digest 333 = .ok (.lstore_n 1, 1) := by decide +kernel
theorem dX6_digest_334 : decode cX6_digest 334 = .ok (.iinc 4 1, 3) := by decide +kernel
theorem dX6_digest_337 : decode cX6_digest 337 = .ok (.goto (-27), 3) := by decide +kernel
theorem dX6_digest_340 : decode cX6_digest 340 = .ok (.aload_n 0, 1) := by decide +kernel
theorem dX6_digest_341 : decode cX6_digest 341 = .ok (.iconst 0, 1) := by decide +kernel
theorem dX6_digest_342 : decode cX6_digest 342 = .ok (.putfield 22, 3) := by decide +kernel
theorem dX6_digest_345 : decode cX6_digest 345 = .ok (.lload_n 1, 1) := by decide +kernel
theorem dX6_digest_346 : decode cX6_digest 346 = .ok (.lreturn, 1) := by decide +kernel
