theorem dL_cell_0 : decode cL_cell 0 = .ok (.iload_n 1, 1) := by decide +kernel
theorem dL_cell_1 : decode cL_cell 1 = .ok (.aload_n 0, 1) := by decide +kernel
theorem dL_cell_2 : decode cL_cell 2 = .ok (.arraylength, 1) := by decide +kernel
theorem dL_cell_3 : decode cL_cell 3 = .ok (.if_icmp .ge 9, 3) := by decide +kernel
theorem dL_cell_6 : decode cL_cell 6 = .ok (.aload_n 0, 1) := by decide +kernel
theorem dL_cell_7 : decode cL_cell 7 = .ok (.iload_n 1, 1) := by decide +kernel
theorem dL_cell_8 : decode cL_cell 8 = .ok (.iaload, 1) := by decide +kernel
theorem dL_cell_9 : decode cL_cell 9 = .ok (.goto 15, 3) := by decide +kernel
theorem dL_cell_12 : decode cL_cell 12 = .ok (.ldc 7, 2) := by decide +kernel
theorem dL_cell_14 : decode cL_cell 14 = .ok (.iload_n 1, 1) := by decide +kernel
theorem dL_cell_15 : decode cL_cell 15 = .ok (.sipush 4096, 3) := by decide +kernel
theorem dL_cell_18 : decode cL_cell 18 = .ok (.irem, 1) := by decide +kernel
theorem dL_cell_19 : decode cL_cell 19 = .ok (.imul, 1) := by decide +kernel
theorem dL_cell_20 : decode cL_cell 20 = .ok (.sipush 337, 3) := by decide +kernel
theorem dL_cell_23 : decode cL_cell 23 = .ok (.iadd, 1) := by decide +kernel
theorem dL_cell_24 : decode cL_cell 24 = .ok (.ldc 8, 2) := by decide +kernel
theorem dL_cell_26 : decode cL_cell 26 = .ok (.iand, 1) := by decide +kernel
theorem dL_cell_27 : decode cL_cell 27 = .ok (.ireturn, 1) := by decide +kernel
theorem dL_set_0 : decode cL_set 0 = .ok (.aload_n 0, 1) := by decide +kernel
theorem dL_set_1 : decode cL_set 1 = .ok (.iload_n 1, 1) := by decide +kernel
theorem dL_set_2 : decode cL_set 2 = .ok (.iload_n 2, 1) := by decide +kernel
theorem dL_set_3 : decode cL_set 3 = .ok (.invokevirtual 9, 3) := by decide +kernel
theorem dL_set_6 : decode cL_set 6 = .ok (.ireturn, 1) := by decide +kernel
theorem dL_set_7 : decode cL_set 7 = .ok (.astore_n 3, 1) := by decide +kernel
theorem dL_set_8 : decode cL_set 8 = .ok (.ldc 17, 2) := by decide +kernel
theorem dL_set_10 : decode cL_set 10 = .ok (.ireturn, 1) := by decide +kernel
theorem dL_set_11 : decode cL_set 11 = .ok (.astore_n 3, 1) := by decide +kernel
theorem dL_set_12 : decode cL_set 12 = .ok (.ldc 20, 2) := by decide +kernel
theorem dL_set_14 : decode cL_set 14 = .ok (.ireturn, 1) := by decide +kernel
theorem dL_add_0 : decode cL_add 0 = .ok (.aload_n 0, 1) := by decide +kernel
theorem dL_add_1 : decode cL_add 1 = .ok (.iload_n 1, 1) := by decide +kernel
theorem dL_add_2 : decode cL_add 2 = .ok (.iload_n 2, 1) := by decide +kernel
theorem dL_add_3 : decode cL_add 3 = .ok (.invokevirtual 21, 3) := by decide +kernel
theorem dL_add_6 : decode cL_add 6 = .ok (.ireturn, 1) := by decide +kernel
theorem dL_add_7 : decode cL_add 7 = .ok (.astore_n 3, 1) := by decide +kernel
theorem dL_add_8 : decode cL_add 8 = .ok (.ldc 17, 2) := by decide +kernel
theorem dL_add_10 : decode cL_add 10 = .ok (.ireturn, 1) := by decide +kernel
theorem dL_add_11 : decode cL_add 11 = .ok (.astore_n 3, 1) := by decide +kernel
theorem dL_add_12 : decode cL_add 12 = .ok (.ldc 20, 2) := by decide +kernel
theorem dL_add_14 : decode cL_add 14 = .ok (.ireturn, 1) := by decide +kernel
theorem dL_take_0 : decode cL_take 0 = .ok (.aload_n 0, 1) := by decide +kernel
theorem dL_take_1 : decode cL_take 1 = .ok (.iload_n 1, 1) := by decide +kernel
theorem dL_take_2 : decode cL_take 2 = .ok (.iload_n 2, 1) := by decide +kernel
theorem dL_take_3 : decode cL_take 3 = .ok (.invokevirtual 26, 3) := by decide +kernel
theorem dL_take_6 : decode cL_take 6 = .ok (.ireturn, 1) := by decide +kernel
theorem dL_take_7 : decode cL_take 7 = .ok (.astore_n 3, 1) := by decide +kernel
theorem dL_take_8 : decode cL_take 8 = .ok (.ldc 17, 2) := by decide +kernel
theorem dL_take_10 : decode cL_take 10 = .ok (.ireturn, 1) := by decide +kernel
theorem dL_take_11 : decode cL_take 11 = .ok (.astore_n 3, 1) := by decide +kernel
theorem dL_take_12 : decode cL_take 12 = .ok (.ldc 20, 2) := by decide +kernel
theorem dL_take_14 : decode cL_take 14 = .ok (.ireturn, 1) := by decide +kernel
theorem dL_raise_0 : decode cL_raise 0 = .ok (.aload_n 0, 1) := by decide +kernel
theorem dL_raise_1 : decode cL_raise 1 = .ok (.iload_n 1, 1) := by decide +kernel
theorem dL_raise_2 : decode cL_raise 2 = .ok (.invokevirtual 29, 3) := by decide +kernel
theorem dL_raise_5 : decode cL_raise 5 = .ok (.ireturn, 1) := by decide +kernel
theorem dL_raise_6 : decode cL_raise 6 = .ok (.astore_n 2, 1) := by decide +kernel
theorem dL_raise_7 : decode cL_raise 7 = .ok (.ldc 17, 2) := by decide +kernel
theorem dL_raise_9 : decode cL_raise 9 = .ok (.ireturn, 1) := by decide +kernel
theorem dL_raise_10 : decode cL_raise 10 = .ok (.astore_n 2, 1) := by decide +kernel
theorem dL_raise_11 : decode cL_raise 11 = .ok (.ldc 20, 2) := by decide +kernel
theorem dL_raise_13 : decode cL_raise 13 = .ok (.ireturn, 1) := by decide +kernel
theorem dL_pay_0 : decode cL_pay 0 = .ok (.aload_n 0, 1) := by decide +kernel
theorem dL_pay_1 : decode cL_pay 1 = .ok (.iload_n 1, 1) := by decide +kernel
theorem dL_pay_2 : decode cL_pay 2 = .ok (.iload_n 2, 1) := by decide +kernel
theorem dL_pay_3 : decode cL_pay 3 = .ok (.iload_n 3, 1) := by decide +kernel
theorem dL_pay_4 : decode cL_pay 4 = .ok (.invokevirtual 33, 3) := by decide +kernel
theorem dL_pay_7 : decode cL_pay 7 = .ok (.ireturn, 1) := by decide +kernel
theorem dL_pay_8 : decode cL_pay 8 = .ok (.astore 4, 2) := by decide +kernel
theorem dL_pay_10 : decode cL_pay 10 = .ok (.ldc 17, 2) := by decide +kernel
theorem dL_pay_12 : decode cL_pay 12 = .ok (.ireturn, 1) := by decide +kernel
theorem dL_pay_13 : decode cL_pay 13 = .ok (.astore 4, 2) := by decide +kernel
theorem dL_pay_15 : decode cL_pay 15 = .ok (.ldc 20, 2) := by decide +kernel
theorem dL_pay_17 : decode cL_pay 17 = .ok (.ireturn, 1) := by decide +kernel
theorem dL_pay_18 : decode cL_pay 18 = .ok (.astore 4, 2) := by decide +kernel
theorem dL_pay_20 : decode cL_pay 20 = .ok (.ldc 37, 2) := by decide +kernel
theorem dL_pay_22 : decode cL_pay 22 = .ok (.ireturn, 1) := by decide +kernel
theorem dL_send_0 : decode cL_send 0 = .ok (.aload_n 0, 1) := by decide +kernel
theorem dL_send_1 : decode cL_send 1 = .ok (.iload_n 1, 1) := by decide +kernel
theorem dL_send_2 : decode cL_send 2 = .ok (.invokevirtual 38, 3) := by decide +kernel
theorem dL_send_5 : decode cL_send 5 = .ok (.ireturn, 1) := by decide +kernel
theorem dL_send_6 : decode cL_send 6 = .ok (.astore_n 2, 1) := by decide +kernel
theorem dL_send_7 : decode cL_send 7 = .ok (.ldc 17, 2) := by decide +kernel
theorem dL_send_9 : decode cL_send 9 = .ok (.ireturn, 1) := by decide +kernel
theorem dL_send_10 : decode cL_send 10 = .ok (.astore_n 2, 1) := by decide +kernel
theorem dL_send_11 : decode cL_send 11 = .ok (.ldc 20, 2) := by decide +kernel
theorem dL_send_13 : decode cL_send 13 = .ok (.ireturn, 1) := by decide +kernel
theorem dL_turn_0 : decode cL_turn 0 = .ok (.aload_n 0, 1) := by decide +kernel
theorem dL_turn_1 : decode cL_turn 1 = .ok (.iload_n 1, 1) := by decide +kernel
theorem dL_turn_2 : decode cL_turn 2 = .ok (.invokevirtual 41, 3) := by decide +kernel
theorem dL_turn_5 : decode cL_turn 5 = .ok (.ireturn, 1) := by decide +kernel
theorem dL_turn_6 : decode cL_turn 6 = .ok (.astore_n 2, 1) := by decide +kernel
theorem dL_turn_7 : decode cL_turn 7 = .ok (.ldc 17, 2) := by decide +kernel
theorem dL_turn_9 : decode cL_turn 9 = .ok (.ireturn, 1) := by decide +kernel
theorem dL_cut_0 : decode cL_cut 0 = .ok (.aload_n 0, 1) := by decide +kernel
theorem dL_cut_1 : decode cL_cut 1 = .ok (.iload_n 1, 1) := by decide +kernel
theorem dL_cut_2 : decode cL_cut 2 = .ok (.invokevirtual 44, 3) := by decide +kernel
theorem dL_cut_5 : decode cL_cut 5 = .ok (.ireturn, 1) := by decide +kernel
theorem dL_cut_6 : decode cL_cut 6 = .ok (.astore_n 2, 1) := by decide +kernel
theorem dL_cut_7 : decode cL_cut 7 = .ok (.ldc 17, 2) := by decide +kernel
theorem dL_cut_9 : decode cL_cut 9 = .ok (.ireturn, 1) := by decide +kernel
theorem dL_cut_10 : decode cL_cut 10 = .ok (.astore_n 2, 1) := by decide +kernel
theorem dL_cut_11 : decode cL_cut 11 = .ok (.ldc 20, 2) := by decide +kernel
theorem dL_cut_13 : decode cL_cut 13 = .ok (.ireturn, 1) := by decide +kernel
theorem dL_append_0 : decode cL_append 0 = .ok (.aload_n 0, 1) := by decide +kernel
theorem dL_append_1 : decode cL_append 1 = .ok (.iload_n 1, 1) := by decide +kernel
theorem dL_append_2 : decode cL_append 2 = .ok (.invokevirtual 47, 3) := by decide +kernel
theorem dL_append_5 : decode cL_append 5 = .ok (.ireturn, 1) := by decide +kernel
theorem dL_append_6 : decode cL_append 6 = .ok (.astore_n 2, 1) := by decide +kernel
theorem dL_append_7 : decode cL_append 7 = .ok (.ldc 17, 2) := by decide +kernel
theorem dL_append_9 : decode cL_append 9 = .ok (.ireturn, 1) := by decide +kernel
theorem dL_append_10 : decode cL_append 10 = .ok (.astore_n 2, 1) := by decide +kernel
theorem dL_append_11 : decode cL_append 11 = .ok (.ldc 20, 2) := by decide +kernel
theorem dL_append_13 : decode cL_append 13 = .ok (.ireturn, 1) := by decide +kernel
theorem dL_work_0 : decode cL_work 0 = .ok (.aload_n 0, 1) := by decide +kernel
theorem dL_work_1 : decode cL_work 1 = .ok (.invokevirtual 50, 3) := by decide +kernel
theorem dL_work_4 : decode cL_work 4 = .ok (.ireturn, 1) := by decide +kernel
theorem dL_work_5 : decode cL_work 5 = .ok (.astore_n 1, 1) := by decide +kernel
theorem dL_work_6 : decode cL_work 6 = .ok (.ldc 17, 2) := by decide +kernel
theorem dL_work_8 : decode cL_work 8 = .ok (.ireturn, 1) := by decide +kernel
theorem dL_part_0 : decode cL_part 0 = .ok (.aload_n 0, 1) := by decide +kernel
theorem dL_part_1 : decode cL_part 1 = .ok (.invokevirtual 54, 3) := by decide +kernel
theorem dL_part_4 : decode cL_part 4 = .ok (.ireturn, 1) := by decide +kernel
theorem dL_part_5 : decode cL_part 5 = .ok (.astore_n 1, 1) := by decide +kernel
theorem dL_part_6 : decode cL_part 6 = .ok (.ldc 17, 2) := by decide +kernel
theorem dL_part_8 : decode cL_part 8 = .ok (.ireturn, 1) := by decide +kernel
theorem dL_why_0 : decode cL_why 0 = .ok (.aload_n 0, 1) := by decide +kernel
theorem dL_why_1 : decode cL_why 1 = .ok (.invokevirtual 57, 3) := by decide +kernel
theorem dL_why_4 : decode cL_why 4 = .ok (.ireturn, 1) := by decide +kernel
theorem dL_why_5 : decode cL_why 5 = .ok (.astore_n 1, 1) := by decide +kernel
theorem dL_why_6 : decode cL_why 6 = .ok (.ldc 17, 2) := by decide +kernel
theorem dL_why_8 : decode cL_why 8 = .ok (.ireturn, 1) := by decide +kernel
theorem dL_undo_0 : decode cL_undo 0 = .ok (.aload_n 0, 1) := by decide +kernel
theorem dL_undo_1 : decode cL_undo 1 = .ok (.invokevirtual 60, 3) := by decide +kernel
theorem dL_undo_4 : decode cL_undo 4 = .ok (.ireturn, 1) := by decide +kernel
theorem dL_undo_5 : decode cL_undo 5 = .ok (.astore_n 1, 1) := by decide +kernel
theorem dL_undo_6 : decode cL_undo 6 = .ok (.ldc 17, 2) := by decide +kernel
theorem dL_undo_8 : decode cL_undo 8 = .ok (.ireturn, 1) := by decide +kernel
theorem dL_restore_0 : decode cL_restore 0 = .ok (.aload_n 0, 1) := by decide +kernel
theorem dL_restore_1 : decode cL_restore 1 = .ok (.invokevirtual 63, 3) := by decide +kernel
theorem dL_restore_4 : decode cL_restore 4 = .ok (.ireturn, 1) := by decide +kernel
theorem dL_restore_5 : decode cL_restore 5 = .ok (.astore_n 1, 1) := by decide +kernel
theorem dL_restore_6 : decode cL_restore 6 = .ok (.ldc 17, 2) := by decide +kernel
theorem dL_restore_8 : decode cL_restore 8 = .ok (.ireturn, 1) := by decide +kernel
theorem dL_number_0 : decode cL_number 0 = .ok (.aload_n 0, 1) := by decide +kernel
theorem dL_number_1 : decode cL_number 1 = .ok (.iload_n 1, 1) := by decide +kernel
theorem dL_number_2 : decode cL_number 2 = .ok (.invokevirtual 66, 3) := by decide +kernel
theorem dL_number_5 : decode cL_number 5 = .ok (.ireturn, 1) := by decide +kernel
theorem dL_number_6 : decode cL_number 6 = .ok (.astore_n 2, 1) := by decide +kernel
theorem dL_number_7 : decode cL_number 7 = .ok (.ldc 17, 2) := by decide +kernel
theorem dL_number_9 : decode cL_number 9 = .ok (.ireturn, 1) := by decide +kernel
theorem dL_stepsOf_0 : decode cL_stepsOf 0 = .ok (.aload_n 0, 1) := by decide +kernel
theorem dL_stepsOf_1 : decode cL_stepsOf 1 = .ok (.iload_n 1, 1) := by decide +kernel
theorem dL_stepsOf_2 : decode cL_stepsOf 2 = .ok (.invokevirtual 69, 3) := by decide +kernel
theorem dL_stepsOf_5 : decode cL_stepsOf 5 = .ok (.ireturn, 1) := by decide +kernel
theorem dL_stepsOf_6 : decode cL_stepsOf 6 = .ok (.astore_n 2, 1) := by decide +kernel
theorem dL_stepsOf_7 : decode cL_stepsOf 7 = .ok (.ldc 17, 2) := by decide +kernel
theorem dL_stepsOf_9 : decode cL_stepsOf 9 = .ok (.ireturn, 1) := by decide +kernel
theorem dL_byCarries_0 : decode cL_byCarries 0 = .ok (.aload_n 0, 1) := by decide +kernel
theorem dL_byCarries_1 : decode cL_byCarries 1 = .ok (.iload_n 1, 1) := by decide +kernel
theorem dL_byCarries_2 : decode cL_byCarries 2 = .ok (.iload_n 2, 1) := by decide +kernel
theorem dL_byCarries_3 : decode cL_byCarries 3 = .ok (.invokevirtual 72, 3) := by decide +kernel
theorem dL_byCarries_6 : decode cL_byCarries 6 = .ok (.ireturn, 1) := by decide +kernel
theorem dL_byCarries_7 : decode cL_byCarries 7 = .ok (.astore_n 3, 1) := by decide +kernel
theorem dL_byCarries_8 : decode cL_byCarries 8 = .ok (.ldc 17, 2) := by decide +kernel
theorem dL_byCarries_10 : decode cL_byCarries 10 = .ok (.ireturn, 1) := by decide +kernel
theorem dL_carries_0 : decode cL_carries 0 = .ok (.aload_n 0, 1) := by decide +kernel
theorem dL_carries_1 : decode cL_carries 1 = .ok (.iload_n 1, 1) := by decide +kernel
theorem dL_carries_2 : decode cL_carries 2 = .ok (.iload_n 2, 1) := by decide +kernel
theorem dL_carries_3 : decode cL_carries 3 = .ok (.invokevirtual 75, 3) := by decide +kernel
theorem dL_carries_6 : decode cL_carries 6 = .ok (.ireturn, 1) := by decide +kernel
theorem dL_carries_7 : decode cL_carries 7 = .ok (.astore_n 3, 1) := by decide +kernel
theorem dL_carries_8 : decode cL_carries 8 = .ok (.ldc 17, 2) := by decide +kernel
theorem dL_carries_10 : decode cL_carries 10 = .ok (.ireturn, 1) := by decide +kernel
theorem dL_digit_0 : decode cL_digit 0 = .ok (.aload_n 0, 1) := by decide +kernel
theorem dL_digit_1 : decode cL_digit 1 = .ok (.iload_n 1, 1) := by decide +kernel
theorem dL_digit_2 : decode cL_digit 2 = .ok (.invokevirtual 78, 3) := by decide +kernel
theorem dL_digit_5 : decode cL_digit 5 = .ok (.ireturn, 1) := by decide +kernel
theorem dL_digit_6 : decode cL_digit 6 = .ok (.astore_n 2, 1) := by decide +kernel
theorem dL_digit_7 : decode cL_digit 7 = .ok (.ldc 17, 2) := by decide +kernel
theorem dL_digit_9 : decode cL_digit 9 = .ok (.ireturn, 1) := by decide +kernel
theorem dL_readAt_0 : decode cL_readAt 0 = .ok (.aload_n 0, 1) := by decide +kernel
theorem dL_readAt_1 : decode cL_readAt 1 = .ok (.iload_n 1, 1) := by decide +kernel
theorem dL_readAt_2 : decode cL_readAt 2 = .ok (.invokevirtual 81, 3) := by decide +kernel
theorem dL_readAt_5 : decode cL_readAt 5 = .ok (.ireturn, 1) := by decide +kernel
theorem dL_readAt_6 : decode cL_readAt 6 = .ok (.astore_n 2, 1) := by decide +kernel
theorem dL_readAt_7 : decode cL_readAt 7 = .ok (.ldc 17, 2) := by decide +kernel
theorem dL_readAt_9 : decode cL_readAt 9 = .ok (.ireturn, 1) := by decide +kernel
theorem dL_worthOfSet_0 : decode cL_worthOfSet 0 = .ok (.aload_n 0, 1) := by decide +kernel
theorem dL_worthOfSet_1 : decode cL_worthOfSet 1 = .ok (.iload_n 1, 1) := by decide +kernel
theorem dL_worthOfSet_2 : decode cL_worthOfSet 2 = .ok (.invokevirtual 90, 3) := by decide +kernel
theorem dL_worthOfSet_5 : decode cL_worthOfSet 5 = .ok (.ireturn, 1) := by decide +kernel
theorem dL_worthOfSet_6 : decode cL_worthOfSet 6 = .ok (.astore_n 2, 1) := by decide +kernel
theorem dL_worthOfSet_7 : decode cL_worthOfSet 7 = .ok (.ldc 17, 2) := by decide +kernel
theorem dL_worthOfSet_9 : decode cL_worthOfSet 9 = .ok (.ireturn, 1) := by decide +kernel
theorem dL_say_0 : decode cL_say 0 = .ok (.aload_n 0, 1) := by decide +kernel
theorem dL_say_1 : decode cL_say 1 = .ok (.iload_n 1, 1) := by decide +kernel
theorem dL_say_2 : decode cL_say 2 = .ok (.invokevirtual 93, 3) := by decide +kernel
theorem dL_say_5 : decode cL_say 5 = .ok (.ireturn, 1) := by decide +kernel
theorem dL_say_6 : decode cL_say 6 = .ok (.astore_n 2, 1) := by decide +kernel
theorem dL_say_7 : decode cL_say 7 = .ok (.ldc 17, 2) := by decide +kernel
theorem dL_say_9 : decode cL_say 9 = .ok (.ireturn, 1) := by decide +kernel
theorem dL_counting_0 : decode cL_counting 0 = .ok (.aload_n 0, 1) := by decide +kernel
theorem dL_counting_1 : decode cL_counting 1 = .ok (.iload_n 1, 1) := by decide +kernel
theorem dL_counting_2 : decode cL_counting 2 = .ok (.invokevirtual 96, 3) := by decide +kernel
theorem dL_counting_5 : decode cL_counting 5 = .ok (.ireturn, 1) := by decide +kernel
theorem dL_counting_6 : decode cL_counting 6 = .ok (.astore_n 2, 1) := by decide +kernel
theorem dL_counting_7 : decode cL_counting 7 = .ok (.ldc 17, 2) := by decide +kernel
theorem dL_counting_9 : decode cL_counting 9 = .ok (.ireturn, 1) := by decide +kernel
theorem dL_full_0 : decode cL_full 0 = .ok (.aload_n 0, 1) := by decide +kernel
theorem dL_full_1 : decode cL_full 1 = .ok (.iload_n 1, 1) := by decide +kernel
theorem dL_full_2 : decode cL_full 2 = .ok (.invokevirtual 99, 3) := by decide +kernel
theorem dL_full_5 : decode cL_full 5 = .ok (.ireturn, 1) := by decide +kernel
theorem dL_full_6 : decode cL_full 6 = .ok (.astore_n 2, 1) := by decide +kernel
theorem dL_full_7 : decode cL_full 7 = .ok (.ldc 17, 2) := by decide +kernel
theorem dL_full_9 : decode cL_full 9 = .ok (.ireturn, 1) := by decide +kernel
theorem dL_ways_0 : decode cL_ways 0 = .ok (.aload_n 0, 1) := by decide +kernel
theorem dL_ways_1 : decode cL_ways 1 = .ok (.iload_n 1, 1) := by decide +kernel
theorem dL_ways_2 : decode cL_ways 2 = .ok (.invokevirtual 102, 3) := by decide +kernel
theorem dL_ways_5 : decode cL_ways 5 = .ok (.ireturn, 1) := by decide +kernel
theorem dL_ways_6 : decode cL_ways 6 = .ok (.astore_n 2, 1) := by decide +kernel
theorem dL_ways_7 : decode cL_ways 7 = .ok (.ldc 17, 2) := by decide +kernel
theorem dL_ways_9 : decode cL_ways 9 = .ok (.ireturn, 1) := by decide +kernel
theorem dL_gaps_0 : decode cL_gaps 0 = .ok (.aload_n 0, 1) := by decide +kernel
theorem dL_gaps_1 : decode cL_gaps 1 = .ok (.iload_n 1, 1) := by decide +kernel
theorem dL_gaps_2 : decode cL_gaps 2 = .ok (.invokevirtual 105, 3) := by decide +kernel
theorem dL_gaps_5 : decode cL_gaps 5 = .ok (.ireturn, 1) := by decide +kernel
theorem dL_gaps_6 : decode cL_gaps 6 = .ok (.astore_n 2, 1) := by decide +kernel
theorem dL_gaps_7 : decode cL_gaps 7 = .ok (.ldc 17, 2) := by decide +kernel
theorem dL_gaps_9 : decode cL_gaps 9 = .ok (.ireturn, 1) := by decide +kernel
theorem dL_length_0 : decode cL_length 0 = .ok (.aload_n 0, 1) := by decide +kernel
theorem dL_length_1 : decode cL_length 1 = .ok (.iload_n 1, 1) := by decide +kernel
theorem dL_length_2 : decode cL_length 2 = .ok (.iload_n 2, 1) := by decide +kernel
theorem dL_length_3 : decode cL_length 3 = .ok (.invokevirtual 108, 3) := by decide +kernel
theorem dL_length_6 : decode cL_length 6 = .ok (.ireturn, 1) := by decide +kernel
theorem dL_length_7 : decode cL_length 7 = .ok (.astore_n 3, 1) := by decide +kernel
theorem dL_length_8 : decode cL_length 8 = .ok (.ldc 17, 2) := by decide +kernel
theorem dL_length_10 : decode cL_length 10 = .ok (.ireturn, 1) := by decide +kernel
theorem dL_length_11 : decode cL_length 11 = .ok (.astore_n 3, 1) := by decide +kernel
theorem dL_length_12 : decode cL_length 12 = .ok (.ldc 20, 2) := by decide +kernel
theorem dL_length_14 : decode cL_length 14 = .ok (.ireturn, 1) := by decide +kernel
theorem dL_word_0 : decode cL_word 0 = .ok (.aload_n 0, 1) := by decide +kernel
theorem dL_word_1 : decode cL_word 1 = .ok (.iload_n 1, 1) := by decide +kernel
theorem dL_word_2 : decode cL_word 2 = .ok (.iload_n 2, 1) := by decide +kernel
theorem dL_word_3 : decode cL_word 3 = .ok (.iload_n 3, 1) := by decide +kernel
theorem dL_word_4 : decode cL_word 4 = .ok (.invokevirtual 111, 3) := by decide +kernel
theorem dL_word_7 : decode cL_word 7 = .ok (.ireturn, 1) := by decide +kernel
theorem dL_word_8 : decode cL_word 8 = .ok (.astore 4, 2) := by decide +kernel
theorem dL_word_10 : decode cL_word 10 = .ok (.ldc 17, 2) := by decide +kernel
theorem dL_word_12 : decode cL_word 12 = .ok (.ireturn, 1) := by decide +kernel
theorem dL_word_13 : decode cL_word 13 = .ok (.astore 4, 2) := by decide +kernel
theorem dL_word_15 : decode cL_word 15 = .ok (.ldc 20, 2) := by decide +kernel
theorem dL_word_17 : decode cL_word 17 = .ok (.ireturn, 1) := by decide +kernel
theorem dL_code_0 : decode cL_code 0 = .ok (.aload_n 0, 1) := by decide +kernel
theorem dL_code_1 : decode cL_code 1 = .ok (.iload_n 1, 1) := by decide +kernel
theorem dL_code_2 : decode cL_code 2 = .ok (.invokevirtual 114, 3) := by decide +kernel
theorem dL_code_5 : decode cL_code 5 = .ok (.ireturn, 1) := by decide +kernel
theorem dL_code_6 : decode cL_code 6 = .ok (.astore_n 2, 1) := by decide +kernel
theorem dL_code_7 : decode cL_code 7 = .ok (.ldc 17, 2) := by decide +kernel
theorem dL_code_9 : decode cL_code 9 = .ok (.ireturn, 1) := by decide +kernel
theorem dL_acts_0 : decode cL_acts 0 = .ok (.iload_n 1, 1) := by decide +kernel
theorem dL_acts_1 : decode cL_acts 1 = .ok (.bipush 16, 2) := by decide +kernel
theorem dL_acts_3 : decode cL_acts 3 = .ok (.idiv, 1) := by decide +kernel
theorem dL_acts_4 : decode cL_acts 4 = .ok (.istore_n 2, 1) := by decide +kernel
theorem dL_acts_5 : decode cL_acts 5 = .ok (.iload_n 2, 1) := by decide +kernel
theorem dL_acts_6 : decode cL_acts 6 = .ok (.bipush 7, 2) := by decide +kernel
theorem dL_acts_8 : decode cL_acts 8 = .ok (.irem, 1) := by decide +kernel
theorem dL_acts_9 : decode cL_acts 9 = .ok (.istore_n 3, 1) := by decide +kernel
theorem dL_acts_10 : decode cL_acts 10 = .ok (.iload_n 2, 1) := by decide +kernel
theorem dL_acts_11 : decode cL_acts 11 = .ok (.bipush 7, 2) := by decide +kernel
theorem dL_acts_13 : decode cL_acts 13 = .ok (.idiv, 1) := by decide +kernel
theorem dL_acts_14 : decode cL_acts 14 = .ok (.bipush 6, 2) := by decide +kernel
theorem dL_acts_16 : decode cL_acts 16 = .ok (.irem, 1) := by decide +kernel
theorem dL_acts_17 : decode cL_acts 17 = .ok (.istore 4, 2) := by decide +kernel
theorem dL_acts_19 : decode cL_acts 19 = .ok (.iload_n 2, 1) := by decide +kernel
theorem dL_acts_20 : decode cL_acts 20 = .ok (.bipush 42, 2) := by decide +kernel
theorem dL_acts_22 : decode cL_acts 22 = .ok (.idiv, 1) := by decide +kernel
theorem dL_acts_23 : decode cL_acts 23 = .ok (.istore 5, 2) := by decide +kernel
theorem dL_acts_25 : decode cL_acts 25 = .ok (.iload_n 1, 1) := by decide +kernel
theorem dL_acts_26 : decode cL_acts 26 = .ok (.bipush 16, 2) := by decide +kernel
theorem dL_acts_28 : decode cL_acts 28 = .ok (.irem, 1) := by decide +kernel
theorem dL_acts_29 : decode cL_acts 29 = .ok (.tableswitch 187 0 13 #[71, 71, 71, 103, 103, 111, 119, 125, 139, 139, 139, 169, 169, 178], 71) := by decide +kernel
theorem dL_acts_100 : decode cL_acts 100 = .ok (.aload_n 0, 1) := by decide +kernel
theorem dL_acts_101 : decode cL_acts 101 = .ok (.iload_n 3, 1) := by decide +kernel
theorem dL_acts_102 : decode cL_acts 102 = .ok (.iload 5, 2) := by decide +kernel
theorem dL_acts_104 : decode cL_acts 104 = .ok (.iconst 4, 1) := by decide +kernel
theorem dL_acts_105 : decode cL_acts 105 = .ok (.irem, 1) := by decide +kernel
theorem dL_acts_106 : decode cL_acts 106 = .ok (.ifCond .ne 14, 3) := by decide +kernel
theorem dL_acts_109 : decode cL_acts 109 = .ok (.iload 5, 2) := by decide +kernel
theorem dL_acts_111 : decode cL_acts 111 = .ok (.iconst 4, 1) := by decide +kernel
theorem dL_acts_112 : decode cL_acts 112 = .ok (.idiv, 1) := by decide +kernel
theorem dL_acts_113 : decode cL_acts 113 = .ok (.sipush 7000, 3) := by decide +kernel
theorem dL_acts_116 : decode cL_acts 116 = .ok (.irem, 1) := by decide +kernel
theorem dL_acts_117 : decode cL_acts 117 = .ok (.goto 11, 3) := by decide +kernel
theorem dL_acts_120 : decode cL_acts 120 = .ok (.iload 5, 2) := by decide +kernel
theorem dL_acts_122 : decode cL_acts 122 = .ok (.iconst 4, 1) := by decide +kernel
theorem dL_acts_123 : decode cL_acts 123 = .ok (.idiv, 1) := by decide +kernel
theorem dL_acts_124 : decode cL_acts 124 = .ok (.sipush 900, 3) := by decide +kernel
theorem dL_acts_127 : decode cL_acts 127 = .ok (.irem, 1) := by decide +kernel
theorem dL_acts_128 : decode cL_acts 128 = .ok (.invokestatic 117, 3) := by decide +kernel
theorem dL_acts_131 : decode cL_acts 131 = .ok (.ireturn, 1) := by decide +kernel
theorem dL_acts_132 : decode cL_acts 132 = .ok (.aload_n 0, 1) := by decide +kernel
theorem dL_acts_133 : decode cL_acts 133 = .ok (.iload_n 3, 1) := by decide +kernel
theorem dL_acts_134 : decode cL_acts 134 = .ok (.iload 4, 2) := by decide +kernel
theorem dL_acts_136 : decode cL_acts 136 = .ok (.invokestatic 122, 3) := by decide +kernel
theorem dL_acts_139 : decode cL_acts 139 = .ok (.ireturn, 1) := by decide +kernel
theorem dL_acts_140 : decode cL_acts 140 = .ok (.aload_n 0, 1) := by decide +kernel
theorem dL_acts_141 : decode cL_acts 141 = .ok (.iload_n 3, 1) := by decide +kernel
theorem dL_acts_142 : decode cL_acts 142 = .ok (.iload 4, 2) := by decide +kernel
theorem dL_acts_144 : decode cL_acts 144 = .ok (.invokestatic 124, 3) := by decide +kernel
theorem dL_acts_147 : decode cL_acts 147 = .ok (.ireturn, 1) := by decide +kernel
theorem dL_acts_148 : decode cL_acts 148 = .ok (.aload_n 0, 1) := by decide +kernel
theorem dL_acts_149 : decode cL_acts 149 = .ok (.iload_n 3, 1) := by decide +kernel
theorem dL_acts_150 : decode cL_acts 150 = .ok (.invokestatic 127, 3) := by decide +kernel
theorem dL_acts_153 : decode cL_acts 153 = .ok (.ireturn, 1) := by decide +kernel
theorem dL_acts_154 : decode cL_acts 154 = .ok (.aload_n 0, 1) := by decide +kernel
theorem dL_acts_155 : decode cL_acts 155 = .ok (.iload_n 3, 1) := by decide +kernel
theorem dL_acts_156 : decode cL_acts 156 = .ok (.iload 4, 2) := by decide +kernel
theorem dL_acts_158 : decode cL_acts 158 = .ok (.iload 5, 2) := by decide +kernel
theorem dL_acts_160 : decode cL_acts 160 = .ok (.sipush 400, 3) := by decide +kernel
theorem dL_acts_163 : decode cL_acts 163 = .ok (.irem, 1) := by decide +kernel
theorem dL_acts_164 : decode cL_acts 164 = .ok (.invokestatic 130, 3) := by decide +kernel
theorem dL_acts_167 : decode cL_acts 167 = .ok (.ireturn, 1) := by decide +kernel
theorem dL_acts_168 : decode cL_acts 168 = .ok (.aload_n 0, 1) := by decide +kernel
theorem dL_acts_169 : decode cL_acts 169 = .ok (.iload 5, 2) := by decide +kernel
theorem dL_acts_171 : decode cL_acts 171 = .ok (.iconst 3, 1) := by decide +kernel
theorem dL_acts_172 : decode cL_acts 172 = .ok (.irem, 1) := by decide +kernel
theorem dL_acts_173 : decode cL_acts 173 = .ok (.ifCond .ne 14, 3) := by decide +kernel
theorem dL_acts_176 : decode cL_acts 176 = .ok (.iload 5, 2) := by decide +kernel
theorem dL_acts_178 : decode cL_acts 178 = .ok (.iconst 3, 1) := by decide +kernel
theorem dL_acts_179 : decode cL_acts 179 = .ok (.idiv, 1) := by decide +kernel
theorem dL_acts_180 : decode cL_acts 180 = .ok (.sipush 6800, 3) := by decide +kernel
theorem dL_acts_183 : decode cL_acts 183 = .ok (.irem, 1) := by decide +kernel
theorem dL_acts_184 : decode cL_acts 184 = .ok (.goto 10, 3) := by decide +kernel
theorem dL_acts_187 : decode cL_acts 187 = .ok (.iload 5, 2) := by decide +kernel
theorem dL_acts_189 : decode cL_acts 189 = .ok (.iconst 3, 1) := by decide +kernel
theorem dL_acts_190 : decode cL_acts 190 = .ok (.idiv, 1) := by decide +kernel
theorem dL_acts_191 : decode cL_acts 191 = .ok (.bipush 50, 2) := by decide +kernel
theorem dL_acts_193 : decode cL_acts 193 = .ok (.irem, 1) := by decide +kernel
theorem dL_acts_194 : decode cL_acts 194 = .ok (.invokestatic 133, 3) := by decide +kernel
theorem dL_acts_197 : decode cL_acts 197 = .ok (.ireturn, 1) := by decide +kernel
theorem dL_acts_198 : decode cL_acts 198 = .ok (.aload_n 0, 1) := by decide +kernel
theorem dL_acts_199 : decode cL_acts 199 = .ok (.iload_n 2, 1) := by decide +kernel
theorem dL_acts_200 : decode cL_acts 200 = .ok (.bipush 64, 2) := by decide +kernel
theorem dL_acts_202 : decode cL_acts 202 = .ok (.irem, 1) := by decide +kernel
theorem dL_acts_203 : decode cL_acts 203 = .ok (.invokestatic 135, 3) := by decide +kernel
theorem dL_acts_206 : decode cL_acts 206 = .ok (.ireturn, 1) := by decide +kernel
theorem dL_acts_207 : decode cL_acts 207 = .ok (.aload_n 0, 1) := by decide +kernel
theorem dL_acts_208 : decode cL_acts 208 = .ok (.iload_n 2, 1) := by decide +kernel
theorem dL_acts_209 : decode cL_acts 209 = .ok (.bipush 12, 2) := by decide +kernel
theorem dL_acts_211 : decode cL_acts 211 = .ok (.irem, 1) := by decide +kernel
theorem dL_acts_212 : decode cL_acts 212 = .ok (.invokestatic 137, 3) := by decide +kernel
theorem dL_acts_215 : decode cL_acts 215 = .ok (.ireturn, 1) := by decide +kernel
theorem dL_acts_216 : decode cL_acts 216 = .ok (.aload_n 0, 1) := by decide +kernel
theorem dL_acts_217 : decode cL_acts 217 = .ok (.bipush 48, 2) := by decide +kernel
theorem dL_acts_219 : decode cL_acts 219 = .ok (.iload 4, 2) := by decide +kernel
theorem dL_acts_221 : decode cL_acts 221 = .ok (.iadd, 1) := by decide +kernel
theorem dL_acts_222 : decode cL_acts 222 = .ok (.invokestatic 139, 3) := by decide +kernel
theorem dL_acts_225 : decode cL_acts 225 = .ok (.pop, 1) := by decide +kernel
theorem dL_acts_226 : decode cL_acts 226 = .ok (.aload_n 0, 1) := by decide +kernel
theorem dL_acts_227 : decode cL_acts 227 = .ok (.bipush 94, 2) := by decide +kernel
theorem dL_acts_229 : decode cL_acts 229 = .ok (.invokestatic 139, 3) := by decide +kernel
theorem dL_acts_232 : decode cL_acts 232 = .ok (.pop, 1) := by decide +kernel
theorem dL_acts_233 : decode cL_acts 233 = .ok (.aload_n 0, 1) := by decide +kernel
theorem dL_acts_234 : decode cL_acts 234 = .ok (.bipush 59, 2) := by decide +kernel
theorem dL_acts_236 : decode cL_acts 236 = .ok (.invokestatic 139, 3) := by decide +kernel
theorem dL_acts_239 : decode cL_acts 239 = .ok (.pop, 1) := by decide +kernel
theorem dL_acts_240 : decode cL_acts 240 = .ok (.aload_n 0, 1) := by decide +kernel
theorem dL_acts_241 : decode cL_acts 241 = .ok (.bipush 102, 2) := by decide +kernel
theorem dL_acts_243 : decode cL_acts 243 = .ok (.invokestatic 139, 3) := by decide +kernel
theorem dL_acts_246 : decode cL_acts 246 = .ok (.pop, 1) := by decide +kernel
theorem dL_acts_247 : decode cL_acts 247 = .ok (.aload_n 0, 1) := by decide +kernel
theorem dL_acts_248 : decode cL_acts 248 = .ok (.bipush 49, 2) := by decide +kernel
theorem dL_acts_250 : decode cL_acts 250 = .ok (.iload 5, 2) := by decide +kernel
theorem dL_acts_252 : decode cL_acts 252 = .ok (.bipush 9, 2) := by decide +kernel
theorem dL_acts_254 : decode cL_acts 254 = .ok (.irem, 1) := by decide +kernel
theorem dL_acts_255 : decode cL_acts 255 = .ok (.iadd, 1) := by decide +kernel
theorem dL_acts_256 : decode cL_acts 256 = .ok (.invokestatic 139, 3) := by decide +kernel
theorem dL_acts_259 : decode cL_acts 259 = .ok (.pop, 1) := by decide +kernel
theorem dL_acts_260 : decode cL_acts 260 = .ok (.aload_n 0, 1) := by decide +kernel
theorem dL_acts_261 : decode cL_acts 261 = .ok (.invokestatic 141, 3) := by decide +kernel
theorem dL_acts_264 : decode cL_acts 264 = .ok (.ireturn, 1) := by decide +kernel
theorem dL_sums_0 : decode cL_sums 0 = .ok (.sipush 151, 3) := by decide +kernel
theorem dL_sums_3 : decode cL_sums 3 = .ok (.istore_n 1, 1) := by decide +kernel
theorem dL_sums_4 : decode cL_sums 4 = .ok (.iconst 0, 1) := by decide +kernel
theorem dL_sums_5 : decode cL_sums 5 = .ok (.istore_n 2, 1) := by decide +kernel
theorem dL_sums_6 : decode cL_sums 6 = .ok (.iload_n 2, 1) := by decide +kernel
theorem dL_sums_7 : decode cL_sums 7 = .ok (.bipush 6, 2) := by decide +kernel
theorem dL_sums_9 : decode cL_sums 9 = .ok (.if_icmp .ge 20, 3) := by decide +kernel
theorem dL_sums_12 : decode cL_sums 12 = .ok (.bipush 31, 2) := by decide +kernel
theorem dL_sums_14 : decode cL_sums 14 = .ok (.iload_n 1, 1) := by decide +kernel
theorem dL_sums_15 : decode cL_sums 15 = .ok (.imul, 1) := by decide +kernel
theorem dL_sums_16 : decode cL_sums 16 = .ok (.aload_n 0, 1) := by decide +kernel
theorem dL_sums_17 : decode cL_sums 17 = .ok (.iload_n 2, 1) := by decide +kernel
theorem dL_sums_18 : decode cL_sums 18 = .ok (.invokestatic 144, 3) := by decide +kernel
theorem dL_sums_21 : decode cL_sums 21 = .ok (.iadd, 1) := by decide +kernel
theorem dL_sums_22 : decode cL_sums 22 = .ok (.istore_n 1, 1) := by decide +kernel
theorem dL_sums_23 : decode cL_sums 23 = .ok (.iinc 2 1, 3) := by decide +kernel
theorem dL_sums_26 : decode cL_sums 26 = .ok (.goto (-20), 3) := by decide +kernel
theorem dL_sums_29 : decode cL_sums 29 = .ok (.iconst 0, 1) := by decide +kernel
theorem dL_sums_30 : decode cL_sums 30 = .ok (.istore_n 2, 1) := by decide +kernel
theorem dL_sums_31 : decode cL_sums 31 = .ok (.iload_n 2, 1) := by decide +kernel
theorem dL_sums_32 : decode cL_sums 32 = .ok (.aload_n 0, 1) := by decide +kernel
theorem dL_sums_33 : decode cL_sums 33 = .ok (.invokevirtual 147, 3) := by decide +kernel
theorem dL_sums_36 : decode cL_sums 36 = .ok (.if_icmp .ge 25, 3) := by decide +kernel
theorem dL_sums_39 : decode cL_sums 39 = .ok (.iload_n 2, 1) := by decide +kernel
theorem dL_sums_40 : decode cL_sums 40 = .ok (.bipush 64, 2) := by decide +kernel
theorem dL_sums_42 : decode cL_sums 42 = .ok (.if_icmp .ge 19, 3) := by decide +kernel
theorem dL_sums_45 : decode cL_sums 45 = .ok (.iconst 3, 1) := by decide +kernel
theorem dL_sums_46 : decode cL_sums 46 = .ok (.iload_n 1, 1) := by decide +kernel
theorem dL_sums_47 : decode cL_sums 47 = .ok (.imul, 1) := by decide +kernel
theorem dL_sums_48 : decode cL_sums 48 = .ok (.aload_n 0, 1) := by decide +kernel
theorem dL_sums_49 : decode cL_sums 49 = .ok (.iload_n 2, 1) := by decide +kernel
theorem dL_sums_50 : decode cL_sums 50 = .ok (.invokestatic 150, 3) := by decide +kernel
theorem dL_sums_53 : decode cL_sums 53 = .ok (.iadd, 1) := by decide +kernel
theorem dL_sums_54 : decode cL_sums 54 = .ok (.istore_n 1, 1) := by decide +kernel
theorem dL_sums_55 : decode cL_sums 55 = .ok (.iinc 2 1, 3) := by decide +kernel
theorem dL_sums_58 : decode cL_sums 58 = .ok (.goto (-27), 3) := by decide +kernel
theorem dL_sums_61 : decode cL_sums 61 = .ok (.bipush 31, 2) := by decide +kernel
theorem dL_sums_63 : decode cL_sums 63 = .ok (.iload_n 1, 1) := by decide +kernel
theorem dL_sums_64 : decode cL_sums 64 = .ok (.imul, 1) := by decide +kernel
theorem dL_sums_65 : decode cL_sums 65 = .ok (.aload_n 0, 1) := by decide +kernel
theorem dL_sums_66 : decode cL_sums 66 = .ok (.invokevirtual 153, 3) := by decide +kernel
theorem dL_sums_69 : decode cL_sums 69 = .ok (.iadd, 1) := by decide +kernel
theorem dL_sums_70 : decode cL_sums 70 = .ok (.bipush 7, 2) := by decide +kernel
theorem dL_sums_72 : decode cL_sums 72 = .ok (.aload_n 0, 1) := by decide +kernel
theorem dL_sums_73 : decode cL_sums 73 = .ok (.invokevirtual 156, 3) := by decide +kernel
theorem dL_sums_76 : decode cL_sums 76 = .ok (.imul, 1) := by decide +kernel
theorem dL_sums_77 : decode cL_sums 77 = .ok (.iadd, 1) := by decide +kernel
theorem dL_sums_78 : decode cL_sums 78 = .ok (.aload_n 0, 1) := by decide +kernel
theorem dL_sums_79 : decode cL_sums 79 = .ok (.invokevirtual 159, 3) := by decide +kernel
theorem dL_sums_82 : decode cL_sums 82 = .ok (.ifCond .eq 20, 3) := by decide +kernel
theorem dL_sums_85 : decode cL_sums 85 = .ok (.bipush 100, 2) := by decide +kernel
theorem dL_sums_87 : decode cL_sums 87 = .ok (.iconst 3, 1) := by decide +kernel
theorem dL_sums_88 : decode cL_sums 88 = .ok (.aload_n 0, 1) := by decide +kernel
theorem dL_sums_89 : decode cL_sums 89 = .ok (.invokestatic 163, 3) := by decide +kernel
theorem dL_sums_92 : decode cL_sums 92 = .ok (.imul, 1) := by decide +kernel
theorem dL_sums_93 : decode cL_sums 93 = .ok (.iadd, 1) := by decide +kernel
theorem dL_sums_94 : decode cL_sums 94 = .ok (.aload_n 0, 1) := by decide +kernel
theorem dL_sums_95 : decode cL_sums 95 = .ok (.invokestatic 166, 3) := by decide +kernel
theorem dL_sums_98 : decode cL_sums 98 = .ok (.iadd, 1) := by decide +kernel
theorem dL_sums_99 : decode cL_sums 99 = .ok (.goto 4, 3) := by decide +kernel
theorem dL_sums_102 : decode cL_sums 102 = .ok (.iconst 0, 1) := by decide +kernel
theorem dL_sums_103 : decode cL_sums 103 = .ok (.iadd, 1) := by decide +kernel
theorem dL_sums_104 : decode cL_sums 104 = .ok (.ireturn, 1) := by decide +kernel
theorem dL_hangs_0 : decode cL_hangs 0 = .ok (.iconst 0, 1) := by decide +kernel
theorem dL_hangs_1 : decode cL_hangs 1 = .ok (.istore_n 1, 1) := by decide +kernel
theorem dL_hangs_2 : decode cL_hangs 2 = .ok (.iconst 0, 1) := by decide +kernel
theorem dL_hangs_3 : decode cL_hangs 3 = .ok (.istore_n 2, 1) := by decide +kernel
theorem dL_hangs_4 : decode cL_hangs 4 = .ok (.iconst 1, 1) := by decide +kernel
theorem dL_hangs_5 : decode cL_hangs 5 = .ok (.istore_n 3, 1) := by decide +kernel
theorem dL_hangs_6 : decode cL_hangs 6 = .ok (.iconst 0, 1) := by decide +kernel
theorem dL_hangs_7 : decode cL_hangs 7 = .ok (.istore 4, 2) := by decide +kernel
theorem dL_hangs_9 : decode cL_hangs 9 = .ok (.iload 4, 2) := by decide +kernel
theorem dL_hangs_11 : decode cL_hangs 11 = .ok (.bipush 6, 2) := by decide +kernel
theorem dL_hangs_13 : decode cL_hangs 13 = .ok (.if_icmp .ge 367, 3) := by decide +kernel
theorem dL_hangs_16 : decode cL_hangs 16 = .ok (.iload_n 3, 1) := by decide +kernel
theorem dL_hangs_17 : decode cL_hangs 17 = .ok (.ifCond .eq 363, 3) := by decide +kernel
theorem dL_hangs_20 : decode cL_hangs 20 = .ok (.aload_n 0, 1) := by decide +kernel
theorem dL_hangs_21 : decode cL_hangs 21 = .ok (.iload 4, 2) := by decide +kernel
theorem dL_hangs_23 : decode cL_hangs 23 = .ok (.invokestatic 144, 3) := by decide +kernel
theorem dL_hangs_26 : decode cL_hangs 26 = .ok (.istore 5, 2) := by decide +kernel
theorem dL_hangs_28 : decode cL_hangs 28 = .ok (.aload_n 0, 1) := by decide +kernel
theorem dL_hangs_29 : decode cL_hangs 29 = .ok (.iload 5, 2) := by decide +kernel
theorem dL_hangs_31 : decode cL_hangs 31 = .ok (.invokestatic 169, 3) := by decide +kernel
theorem dL_hangs_34 : decode cL_hangs 34 = .ok (.istore 6, 2) := by decide +kernel
theorem dL_hangs_36 : decode cL_hangs 36 = .ok (.aload_n 0, 1) := by decide +kernel
theorem dL_hangs_37 : decode cL_hangs 37 = .ok (.iload 5, 2) := by decide +kernel
theorem dL_hangs_39 : decode cL_hangs 39 = .ok (.invokestatic 171, 3) := by decide +kernel
theorem dL_hangs_42 : decode cL_hangs 42 = .ok (.istore 7, 2) := by decide +kernel
theorem dL_hangs_44 : decode cL_hangs 44 = .ok (.iload_n 1, 1) := by decide +kernel
theorem dL_hangs_45 : decode cL_hangs 45 = .ok (.iload 5, 2) := by decide +kernel
theorem dL_hangs_47 : decode cL_hangs 47 = .ok (.iadd, 1) := by decide +kernel
theorem dL_hangs_48 : decode cL_hangs 48 = .ok (.istore_n 1, 1) := by decide +kernel
theorem dL_hangs_49 : decode cL_hangs 49 = .ok (.iload 5, 2) := by decide +kernel
theorem dL_hangs_51 : decode cL_hangs 51 = .ok (.ifCond .lt 152, 3) := by decide +kernel
theorem dL_hangs_54 : decode cL_hangs 54 = .ok (.iload 5, 2) := by decide +kernel
theorem dL_hangs_56 : decode cL_hangs 56 = .ok (.sipush 6764, 3) := by decide +kernel
theorem dL_hangs_59 : decode cL_hangs 59 = .ok (.if_icmp .gt 144, 3) := by decide +kernel
theorem dL_hangs_62 : decode cL_hangs 62 = .ok (.iload 5, 2) := by decide +kernel
theorem dL_hangs_64 : decode cL_hangs 64 = .ok (.aload_n 0, 1) := by decide +kernel
theorem dL_hangs_65 : decode cL_hangs 65 = .ok (.aload_n 0, 1) := by decide +kernel
theorem dL_hangs_66 : decode cL_hangs 66 = .ok (.invokevirtual 174, 3) := by decide +kernel
theorem dL_hangs_69 : decode cL_hangs 69 = .ok (.invokestatic 144, 3) := by decide +kernel
theorem dL_hangs_72 : decode cL_hangs 72 = .ok (.if_icmp .gt 131, 3) := by decide +kernel
theorem dL_hangs_75 : decode cL_hangs 75 = .ok (.iload 6, 2) := by decide +kernel
theorem dL_hangs_77 : decode cL_hangs 77 = .ok (.aload_n 0, 1) := by decide +kernel
theorem dL_hangs_78 : decode cL_hangs 78 = .ok (.iload 5, 2) := by decide +kernel
theorem dL_hangs_80 : decode cL_hangs 80 = .ok (.invokestatic 177, 3) := by decide +kernel
theorem dL_hangs_83 : decode cL_hangs 83 = .ok (.if_icmp .ne 120, 3) := by decide +kernel
theorem dL_hangs_86 : decode cL_hangs 86 = .ok (.iload 6, 2) := by decide +kernel
theorem dL_hangs_88 : decode cL_hangs 88 = .ok (.iload 6, 2) := by decide +kernel
theorem dL_hangs_90 : decode cL_hangs 90 = .ok (.iconst 1, 1) := by decide +kernel
theorem dL_hangs_91 : decode cL_hangs 91 = .ok (.ishr, 1) := by decide +kernel
theorem dL_hangs_92 : decode cL_hangs 92 = .ok (.iand, 1) := by decide +kernel
theorem dL_hangs_93 : decode cL_hangs 93 = .ok (.ifCond .ne 110, 3) := by decide +kernel
theorem dL_hangs_96 : decode cL_hangs 96 = .ok (.aload_n 0, 1) := by decide +kernel
theorem dL_hangs_97 : decode cL_hangs 97 = .ok (.iload 6, 2) := by decide +kernel
theorem dL_hangs_99 : decode cL_hangs 99 = .ok (.invokestatic 180, 3) := by decide +kernel
theorem dL_hangs_102 : decode cL_hangs 102 = .ok (.iload 5, 2) := by decide +kernel
theorem dL_hangs_104 : decode cL_hangs 104 = .ok (.if_icmp .ne 99, 3) := by decide +kernel
theorem dL_hangs_107 : decode cL_hangs 107 = .ok (.aload_n 0, 1) := by decide +kernel
theorem dL_hangs_108 : decode cL_hangs 108 = .ok (.iload 7, 2) := by decide +kernel
theorem dL_hangs_110 : decode cL_hangs 110 = .ok (.invokestatic 180, 3) := by decide +kernel
theorem dL_hangs_113 : decode cL_hangs 113 = .ok (.iload 5, 2) := by decide +kernel
theorem dL_hangs_115 : decode cL_hangs 115 = .ok (.if_icmp .ne 88, 3) := by decide +kernel
theorem dL_hangs_118 : decode cL_hangs 118 = .ok (.iload 6, 2) := by decide +kernel
theorem dL_hangs_120 : decode cL_hangs 120 = .ok (.iload 7, 2) := by decide +kernel
theorem dL_hangs_122 : decode cL_hangs 122 = .ok (.if_icmp .lt 81, 3) := by decide +kernel
theorem dL_hangs_125 : decode cL_hangs 125 = .ok (.aload_n 0, 1) := by decide +kernel
theorem dL_hangs_126 : decode cL_hangs 126 = .ok (.iload 5, 2) := by decide +kernel
theorem dL_hangs_128 : decode cL_hangs 128 = .ok (.invokestatic 182, 3) := by decide +kernel
theorem dL_hangs_131 : decode cL_hangs 131 = .ok (.aload_n 0, 1) := by decide +kernel
theorem dL_hangs_132 : decode cL_hangs 132 = .ok (.iload 5, 2) := by decide +kernel
theorem dL_hangs_134 : decode cL_hangs 134 = .ok (.invokestatic 184, 3) := by decide +kernel
theorem dL_hangs_137 : decode cL_hangs 137 = .ok (.if_icmp .ne 66, 3) := by decide +kernel
theorem dL_hangs_140 : decode cL_hangs 140 = .ok (.aload_n 0, 1) := by decide +kernel
theorem dL_hangs_141 : decode cL_hangs 141 = .ok (.iload 5, 2) := by decide +kernel
theorem dL_hangs_143 : decode cL_hangs 143 = .ok (.invokestatic 182, 3) := by decide +kernel
theorem dL_hangs_146 : decode cL_hangs 146 = .ok (.iconst 1, 1) := by decide +kernel
theorem dL_hangs_147 : decode cL_hangs 147 = .ok (.if_icmp .lt 56, 3) := by decide +kernel
theorem dL_hangs_150 : decode cL_hangs 150 = .ok (.iload 6, 2) := by decide +kernel
theorem dL_hangs_152 : decode cL_hangs 152 = .ok (.iload 7, 2) := by decide +kernel
theorem dL_hangs_154 : decode cL_hangs 154 = .ok (.if_icmp .eq 13, 3) := by decide +kernel
theorem dL_hangs_157 : decode cL_hangs 157 = .ok (.aload_n 0, 1) := by decide +kernel
theorem dL_hangs_158 : decode cL_hangs 158 = .ok (.iload 5, 2) := by decide +kernel
theorem dL_hangs_160 : decode cL_hangs 160 = .ok (.invokestatic 182, 3) := by decide +kernel
theorem dL_hangs_163 : decode cL_hangs 163 = .ok (.iconst 1, 1) := by decide +kernel
theorem dL_hangs_164 : decode cL_hangs 164 = .ok (.if_icmp .le 39, 3) := by decide +kernel
theorem dL_hangs_167 : decode cL_hangs 167 = .ok (.aload_n 0, 1) := by decide +kernel
theorem dL_hangs_168 : decode cL_hangs 168 = .ok (.iconst 0, 1) := by decide +kernel
theorem dL_hangs_169 : decode cL_hangs 169 = .ok (.iload 5, 2) := by decide +kernel
theorem dL_hangs_171 : decode cL_hangs 171 = .ok (.invokestatic 187, 3) := by decide +kernel
theorem dL_hangs_174 : decode cL_hangs 174 = .ok (.aload_n 0, 1) := by decide +kernel
theorem dL_hangs_175 : decode cL_hangs 175 = .ok (.iload 4, 2) := by decide +kernel
theorem dL_hangs_177 : decode cL_hangs 177 = .ok (.invokestatic 190, 3) := by decide +kernel
theorem dL_hangs_180 : decode cL_hangs 180 = .ok (.if_icmp .ne 23, 3) := by decide +kernel
theorem dL_hangs_183 : decode cL_hangs 183 = .ok (.aload_n 0, 1) := by decide +kernel
theorem dL_hangs_184 : decode cL_hangs 184 = .ok (.iconst 2, 1) := by decide +kernel
theorem dL_hangs_185 : decode cL_hangs 185 = .ok (.iload 5, 2) := by decide +kernel
theorem dL_hangs_187 : decode cL_hangs 187 = .ok (.invokestatic 187, 3) := by decide +kernel
theorem dL_hangs_190 : decode cL_hangs 190 = .ok (.aload_n 0, 1) := by decide +kernel
theorem dL_hangs_191 : decode cL_hangs 191 = .ok (.iload 4, 2) := by decide +kernel
theorem dL_hangs_193 : decode cL_hangs 193 = .ok (.invokestatic 190, 3) := by decide +kernel
theorem dL_hangs_196 : decode cL_hangs 196 = .ok (.if_icmp .ne 7, 3) := by decide +kernel
theorem dL_hangs_199 : decode cL_hangs 199 = .ok (.iconst 1, 1) := by decide +kernel
theorem dL_hangs_200 : decode cL_hangs 200 = .ok (.goto 4, 3) := by decide +kernel
theorem dL_hangs_203 : decode cL_hangs 203 = .ok (.iconst 0, 1) := by decide +kernel
theorem dL_hangs_204 : decode cL_hangs 204 = .ok (.istore_n 3, 1) := by decide +kernel
theorem dL_hangs_205 : decode cL_hangs 205 = .ok (.iload 4, 2) := by decide +kernel
theorem dL_hangs_207 : decode cL_hangs 207 = .ok (.iconst 1, 1) := by decide +kernel
theorem dL_hangs_208 : decode cL_hangs 208 = .ok (.iadd, 1) := by decide +kernel
theorem dL_hangs_209 : decode cL_hangs 209 = .ok (.bipush 6, 2) := by decide +kernel
theorem dL_hangs_211 : decode cL_hangs 211 = .ok (.irem, 1) := by decide +kernel
theorem dL_hangs_212 : decode cL_hangs 212 = .ok (.istore 8, 2) := by decide +kernel
theorem dL_hangs_214 : decode cL_hangs 214 = .ok (.aload_n 0, 1) := by decide +kernel
theorem dL_hangs_215 : decode cL_hangs 215 = .ok (.iload 8, 2) := by decide +kernel
theorem dL_hangs_217 : decode cL_hangs 217 = .ok (.invokestatic 144, 3) := by decide +kernel
theorem dL_hangs_220 : decode cL_hangs 220 = .ok (.istore 9, 2) := by decide +kernel
theorem dL_hangs_222 : decode cL_hangs 222 = .ok (.aload_n 0, 1) := by decide +kernel
theorem dL_hangs_223 : decode cL_hangs 223 = .ok (.iload 4, 2) := by decide +kernel
theorem dL_hangs_225 : decode cL_hangs 225 = .ok (.iload 8, 2) := by decide +kernel
theorem dL_hangs_227 : decode cL_hangs 227 = .ok (.invokestatic 192, 3) := by decide +kernel
theorem dL_hangs_230 : decode cL_hangs 230 = .ok (.istore 10, 2) := by decide +kernel
theorem dL_hangs_232 : decode cL_hangs 232 = .ok (.iload_n 3, 1) := by decide +kernel
theorem dL_hangs_233 : decode cL_hangs 233 = .ok (.ifCond .eq 74, 3) := by decide +kernel
theorem dL_hangs_236 : decode cL_hangs 236 = .ok (.iload 10, 2) := by decide +kernel
theorem dL_hangs_238 : decode cL_hangs 238 = .ok (.iload 10, 2) := by decide +kernel
theorem dL_hangs_240 : decode cL_hangs 240 = .ok (.iconst 1, 1) := by decide +kernel
theorem dL_hangs_241 : decode cL_hangs 241 = .ok (.ishr, 1) := by decide +kernel
theorem dL_hangs_242 : decode cL_hangs 242 = .ok (.iand, 1) := by decide +kernel
theorem dL_hangs_243 : decode cL_hangs 243 = .ok (.ifCond .ne 64, 3) := by decide +kernel
theorem dL_hangs_246 : decode cL_hangs 246 = .ok (.iload 10, 2) := by decide +kernel
theorem dL_hangs_248 : decode cL_hangs 248 = .ok (.aload_n 0, 1) := by decide +kernel
theorem dL_hangs_249 : decode cL_hangs 249 = .ok (.iload 8, 2) := by decide +kernel
theorem dL_hangs_251 : decode cL_hangs 251 = .ok (.iload 4, 2) := by decide +kernel
theorem dL_hangs_253 : decode cL_hangs 253 = .ok (.invokestatic 192, 3) := by decide +kernel
theorem dL_hangs_256 : decode cL_hangs 256 = .ok (.if_icmp .ne 51, 3) := by decide +kernel
theorem dL_hangs_259 : decode cL_hangs 259 = .ok (.aload_n 0, 1) := by decide +kernel
theorem dL_hangs_260 : decode cL_hangs 260 = .ok (.iload 4, 2) := by decide +kernel
theorem dL_hangs_262 : decode cL_hangs 262 = .ok (.iload 8, 2) := by decide +kernel
theorem dL_hangs_264 : decode cL_hangs 264 = .ok (.invokestatic 195, 3) := by decide +kernel
theorem dL_hangs_267 : decode cL_hangs 267 = .ok (.aload_n 0, 1) := by decide +kernel
theorem dL_hangs_268 : decode cL_hangs 268 = .ok (.iload 8, 2) := by decide +kernel
theorem dL_hangs_270 : decode cL_hangs 270 = .ok (.iload 4, 2) := by decide +kernel
theorem dL_hangs_272 : decode cL_hangs 272 = .ok (.invokestatic 195, 3) := by decide +kernel
theorem dL_hangs_275 : decode cL_hangs 275 = .ok (.if_icmp .ne 32, 3) := by decide +kernel
theorem dL_hangs_278 : decode cL_hangs 278 = .ok (.iload 5, 2) := by decide +kernel
theorem dL_hangs_280 : decode cL_hangs 280 = .ok (.iload 9, 2) := by decide +kernel
theorem dL_hangs_282 : decode cL_hangs 282 = .ok (.iadd, 1) := by decide +kernel
theorem dL_hangs_283 : decode cL_hangs 283 = .ok (.sipush 6764, 3) := by decide +kernel
theorem dL_hangs_286 : decode cL_hangs 286 = .ok (.if_icmp .gt 17, 3) := by decide +kernel
theorem dL_hangs_289 : decode cL_hangs 289 = .ok (.iload 10, 2) := by decide +kernel
theorem dL_hangs_291 : decode cL_hangs 291 = .ok (.aload_n 0, 1) := by decide +kernel
theorem dL_hangs_292 : decode cL_hangs 292 = .ok (.iload 5, 2) := by decide +kernel
theorem dL_hangs_294 : decode cL_hangs 294 = .ok (.iload 9, 2) := by decide +kernel
theorem dL_hangs_296 : decode cL_hangs 296 = .ok (.iadd, 1) := by decide +kernel
theorem dL_hangs_297 : decode cL_hangs 297 = .ok (.invokestatic 169, 3) := by decide +kernel
theorem dL_hangs_300 : decode cL_hangs 300 = .ok (.if_icmp .ne 7, 3) := by decide +kernel
theorem dL_hangs_303 : decode cL_hangs 303 = .ok (.iconst 1, 1) := by decide +kernel
theorem dL_hangs_304 : decode cL_hangs 304 = .ok (.goto 4, 3) := by decide +kernel
theorem dL_hangs_307 : decode cL_hangs 307 = .ok (.iconst 0, 1) := by decide +kernel
theorem dL_hangs_308 : decode cL_hangs 308 = .ok (.istore_n 3, 1) := by decide +kernel
theorem dL_hangs_309 : decode cL_hangs 309 = .ok (.iconst 0, 1) := by decide +kernel
theorem dL_hangs_310 : decode cL_hangs 310 = .ok (.istore 11, 2) := by decide +kernel
theorem dL_hangs_312 : decode cL_hangs 312 = .ok (.iconst 0, 1) := by decide +kernel
theorem dL_hangs_313 : decode cL_hangs 313 = .ok (.istore 12, 2) := by decide +kernel
theorem dL_hangs_315 : decode cL_hangs 315 = .ok (.iload 12, 2) := by decide +kernel
theorem dL_hangs_317 : decode cL_hangs 317 = .ok (.aload_n 0, 1) := by decide +kernel
theorem dL_hangs_318 : decode cL_hangs 318 = .ok (.iload 4, 2) := by decide +kernel
theorem dL_hangs_320 : decode cL_hangs 320 = .ok (.invokestatic 190, 3) := by decide +kernel
theorem dL_hangs_323 : decode cL_hangs 323 = .ok (.if_icmp .ge 23, 3) := by decide +kernel
theorem dL_hangs_326 : decode cL_hangs 326 = .ok (.iload 11, 2) := by decide +kernel
theorem dL_hangs_328 : decode cL_hangs 328 = .ok (.aload_n 0, 1) := by decide +kernel
theorem dL_hangs_329 : decode cL_hangs 329 = .ok (.iconst 2, 1) := by decide +kernel
theorem dL_hangs_330 : decode cL_hangs 330 = .ok (.iload 5, 2) := by decide +kernel
theorem dL_hangs_332 : decode cL_hangs 332 = .ok (.iload 12, 2) := by decide +kernel
theorem dL_hangs_334 : decode cL_hangs 334 = .ok (.invokestatic 197, 3) := by decide +kernel
theorem dL_hangs_337 : decode cL_hangs 337 = .ok (.iadd, 1) := by decide +kernel
theorem dL_hangs_338 : decode cL_hangs 338 = .ok (.istore 11, 2) := by decide +kernel
theorem dL_hangs_340 : decode cL_hangs 340 = .ok (.iinc 12 1, 3) := by decide +kernel
theorem dL_hangs_343 : decode cL_hangs 343 = .ok (.goto (-28), 3) := by decide +kernel
theorem dL_hangs_346 : decode cL_hangs 346 = .ok (.iload_n 3, 1) := by decide +kernel
theorem dL_hangs_347 : decode cL_hangs 347 = .ok (.ifCond .eq 25, 3) := by decide +kernel
theorem dL_hangs_350 : decode cL_hangs 350 = .ok (.iload 5, 2) := by decide +kernel
theorem dL_hangs_352 : decode cL_hangs 352 = .ok (.ifCond .eq 16, 3) := by decide +kernel
theorem dL_hangs_355 : decode cL_hangs 355 = .ok (.iload 11, 2) := by decide +kernel
theorem dL_hangs_357 : decode cL_hangs 357 = .ok (.aload_n 0, 1) := by decide +kernel
theorem dL_hangs_358 : decode cL_hangs 358 = .ok (.iconst 0, 1) := by decide +kernel
theorem dL_hangs_359 : decode cL_hangs 359 = .ok (.iload 5, 2) := by decide +kernel
theorem dL_hangs_361 : decode cL_hangs 361 = .ok (.iconst 0, 1) := by decide +kernel
theorem dL_hangs_362 : decode cL_hangs 362 = .ok (.invokestatic 197, 3) := by decide +kernel
theorem dL_hangs_365 : decode cL_hangs 365 = .ok (.if_icmp .ne 7, 3) := by decide +kernel
theorem dL_hangs_368 : decode cL_hangs 368 = .ok (.iconst 1, 1) := by decide +kernel
theorem dL_hangs_369 : decode cL_hangs 369 = .ok (.goto 4, 3) := by decide +kernel
theorem dL_hangs_372 : decode cL_hangs 372 = .ok (.iconst 0, 1) := by decide +kernel
theorem dL_hangs_373 : decode cL_hangs 373 = .ok (.istore_n 3, 1) := by decide +kernel
theorem dL_hangs_374 : decode cL_hangs 374 = .ok (.iinc 4 1, 3) := by decide +kernel
theorem dL_hangs_377 : decode cL_hangs 377 = .ok (.goto (-368), 3) := by decide +kernel
theorem dL_hangs_380 : decode cL_hangs 380 = .ok (.aload_n 0, 1) := by decide +kernel
theorem dL_hangs_381 : decode cL_hangs 381 = .ok (.aload_n 0, 1) := by decide +kernel
theorem dL_hangs_382 : decode cL_hangs 382 = .ok (.aload_n 0, 1) := by decide +kernel
theorem dL_hangs_383 : decode cL_hangs 383 = .ok (.invokevirtual 174, 3) := by decide +kernel
theorem dL_hangs_386 : decode cL_hangs 386 = .ok (.invokestatic 144, 3) := by decide +kernel
theorem dL_hangs_389 : decode cL_hangs 389 = .ok (.invokestatic 171, 3) := by decide +kernel
theorem dL_hangs_392 : decode cL_hangs 392 = .ok (.istore 4, 2) := by decide +kernel
theorem dL_hangs_394 : decode cL_hangs 394 = .ok (.iconst 1, 1) := by decide +kernel
theorem dL_hangs_395 : decode cL_hangs 395 = .ok (.istore 5, 2) := by decide +kernel
theorem dL_hangs_397 : decode cL_hangs 397 = .ok (.iload 5, 2) := by decide +kernel
theorem dL_hangs_399 : decode cL_hangs 399 = .ok (.bipush 18, 2) := by decide +kernel
theorem dL_hangs_401 : decode cL_hangs 401 = .ok (.if_icmp .ge 40, 3) := by decide +kernel
theorem dL_hangs_404 : decode cL_hangs 404 = .ok (.iload_n 3, 1) := by decide +kernel
theorem dL_hangs_405 : decode cL_hangs 405 = .ok (.ifCond .eq 36, 3) := by decide +kernel
theorem dL_hangs_408 : decode cL_hangs 408 = .ok (.iload 4, 2) := by decide +kernel
theorem dL_hangs_410 : decode cL_hangs 410 = .ok (.iconst 1, 1) := by decide +kernel
theorem dL_hangs_411 : decode cL_hangs 411 = .ok (.iload 5, 2) := by decide +kernel
theorem dL_hangs_413 : decode cL_hangs 413 = .ok (.ishl, 1) := by decide +kernel
theorem dL_hangs_414 : decode cL_hangs 414 = .ok (.if_icmp .lt 15, 3) := by decide +kernel
theorem dL_hangs_417 : decode cL_hangs 417 = .ok (.iload 4, 2) := by decide +kernel
theorem dL_hangs_419 : decode cL_hangs 419 = .ok (.iload 5, 2) := by decide +kernel
theorem dL_hangs_421 : decode cL_hangs 421 = .ok (.iconst 1, 1) := by decide +kernel
theorem dL_hangs_422 : decode cL_hangs 422 = .ok (.isub, 1) := by decide +kernel
theorem dL_hangs_423 : decode cL_hangs 423 = .ok (.ishr, 1) := by decide +kernel
theorem dL_hangs_424 : decode cL_hangs 424 = .ok (.iconst 3, 1) := by decide +kernel
theorem dL_hangs_425 : decode cL_hangs 425 = .ok (.iand, 1) := by decide +kernel
theorem dL_hangs_426 : decode cL_hangs 426 = .ok (.ifCond .eq 7, 3) := by decide +kernel
theorem dL_hangs_429 : decode cL_hangs 429 = .ok (.iconst 1, 1) := by decide +kernel
theorem dL_hangs_430 : decode cL_hangs 430 = .ok (.goto 4, 3) := by decide +kernel
theorem dL_hangs_433 : decode cL_hangs 433 = .ok (.iconst 0, 1) := by decide +kernel
theorem dL_hangs_434 : decode cL_hangs 434 = .ok (.istore_n 3, 1) := by decide +kernel
theorem dL_hangs_435 : decode cL_hangs 435 = .ok (.iinc 5 1, 3) := by decide +kernel
theorem dL_hangs_438 : decode cL_hangs 438 = .ok (.goto (-41), 3) := by decide +kernel
theorem dL_hangs_441 : decode cL_hangs 441 = .ok (.aload_n 0, 1) := by decide +kernel
theorem dL_hangs_442 : decode cL_hangs 442 = .ok (.invokevirtual 153, 3) := by decide +kernel
theorem dL_hangs_445 : decode cL_hangs 445 = .ok (.istore 5, 2) := by decide +kernel
theorem dL_hangs_447 : decode cL_hangs 447 = .ok (.iconst 0, 1) := by decide +kernel
theorem dL_hangs_448 : decode cL_hangs 448 = .ok (.istore 6, 2) := by decide +kernel
theorem dL_hangs_450 : decode cL_hangs 450 = .ok (.iload 6, 2) := by decide +kernel
theorem dL_hangs_452 : decode cL_hangs 452 = .ok (.iload 5, 2) := by decide +kernel
theorem dL_hangs_454 : decode cL_hangs 454 = .ok (.if_icmp .ge 62, 3) := by decide +kernel
theorem dL_hangs_457 : decode cL_hangs 457 = .ok (.iload_n 3, 1) := by decide +kernel
theorem dL_hangs_458 : decode cL_hangs 458 = .ok (.ifCond .eq 58, 3) := by decide +kernel
theorem dL_hangs_461 : decode cL_hangs 461 = .ok (.aload_n 0, 1) := by decide +kernel
theorem dL_hangs_462 : decode cL_hangs 462 = .ok (.iload 6, 2) := by decide +kernel
theorem dL_hangs_464 : decode cL_hangs 464 = .ok (.invokestatic 200, 3) := by decide +kernel
theorem dL_hangs_467 : decode cL_hangs 467 = .ok (.iconst 1, 1) := by decide +kernel
theorem dL_hangs_468 : decode cL_hangs 468 = .ok (.if_icmp .lt 19, 3) := by decide +kernel
theorem dL_hangs_471 : decode cL_hangs 471 = .ok (.aload_n 0, 1) := by decide +kernel
theorem dL_hangs_472 : decode cL_hangs 472 = .ok (.iload 6, 2) := by decide +kernel
theorem dL_hangs_474 : decode cL_hangs 474 = .ok (.invokestatic 200, 3) := by decide +kernel
theorem dL_hangs_477 : decode cL_hangs 477 = .ok (.sipush 6764, 3) := by decide +kernel
theorem dL_hangs_480 : decode cL_hangs 480 = .ok (.if_icmp .gt 7, 3) := by decide +kernel
theorem dL_hangs_483 : decode cL_hangs 483 = .ok (.iconst 1, 1) := by decide +kernel
theorem dL_hangs_484 : decode cL_hangs 484 = .ok (.goto 4, 3) := by decide +kernel
theorem dL_hangs_487 : decode cL_hangs 487 = .ok (.iconst 0, 1) := by decide +kernel
theorem dL_hangs_488 : decode cL_hangs 488 = .ok (.istore_n 3, 1) := by decide +kernel
theorem dL_hangs_489 : decode cL_hangs 489 = .ok (.iload_n 2, 1) := by decide +kernel
theorem dL_hangs_490 : decode cL_hangs 490 = .ok (.iload_n 3, 1) := by decide +kernel
theorem dL_hangs_491 : decode cL_hangs 491 = .ok (.ifCond .eq 16, 3) := by decide +kernel
theorem dL_hangs_494 : decode cL_hangs 494 = .ok (.aload_n 0, 1) := by decide +kernel
theorem dL_hangs_495 : decode cL_hangs 495 = .ok (.aload_n 0, 1) := by decide +kernel
theorem dL_hangs_496 : decode cL_hangs 496 = .ok (.iload 6, 2) := by decide +kernel
theorem dL_hangs_498 : decode cL_hangs 498 = .ok (.invokestatic 200, 3) := by decide +kernel
theorem dL_hangs_501 : decode cL_hangs 501 = .ok (.invokestatic 202, 3) := by decide +kernel
theorem dL_hangs_504 : decode cL_hangs 504 = .ok (.goto 4, 3) := by decide +kernel
theorem dL_hangs_507 : decode cL_hangs 507 = .ok (.iconst 0, 1) := by decide +kernel
theorem dL_hangs_508 : decode cL_hangs 508 = .ok (.iadd, 1) := by decide +kernel
theorem dL_hangs_509 : decode cL_hangs 509 = .ok (.istore_n 2, 1) := by decide +kernel
theorem dL_hangs_510 : decode cL_hangs 510 = .ok (.iinc 6 1, 3) := by decide +kernel
theorem dL_hangs_513 : decode cL_hangs 513 = .ok (.goto (-63), 3) := by decide +kernel
theorem dL_hangs_516 : decode cL_hangs 516 = .ok (.iload_n 3, 1) := by decide +kernel
theorem dL_hangs_517 : decode cL_hangs 517 = .ok (.ifCond .eq 75, 3) := by decide +kernel
theorem dL_hangs_520 : decode cL_hangs 520 = .ok (.iload_n 1, 1) := by decide +kernel
theorem dL_hangs_521 : decode cL_hangs 521 = .ok (.aload_n 0, 1) := by decide +kernel
theorem dL_hangs_522 : decode cL_hangs 522 = .ok (.invokevirtual 205, 3) := by decide +kernel
theorem dL_hangs_525 : decode cL_hangs 525 = .ok (.if_icmp .ne 67, 3) := by decide +kernel
theorem dL_hangs_528 : decode cL_hangs 528 = .ok (.iload_n 2, 1) := by decide +kernel
theorem dL_hangs_529 : decode cL_hangs 529 = .ok (.aload_n 0, 1) := by decide +kernel
theorem dL_hangs_530 : decode cL_hangs 530 = .ok (.invokevirtual 208, 3) := by decide +kernel
theorem dL_hangs_533 : decode cL_hangs 533 = .ok (.iadd, 1) := by decide +kernel
theorem dL_hangs_534 : decode cL_hangs 534 = .ok (.aload_n 0, 1) := by decide +kernel
theorem dL_hangs_535 : decode cL_hangs 535 = .ok (.invokevirtual 147, 3) := by decide +kernel
theorem dL_hangs_538 : decode cL_hangs 538 = .ok (.if_icmp .gt 54, 3) := by decide +kernel
theorem dL_hangs_541 : decode cL_hangs 541 = .ok (.aload_n 0, 1) := by decide +kernel
theorem dL_hangs_542 : decode cL_hangs 542 = .ok (.invokevirtual 156, 3) := by decide +kernel
theorem dL_hangs_545 : decode cL_hangs 545 = .ok (.ifCond .gt 16, 3) := by decide +kernel
theorem dL_hangs_548 : decode cL_hangs 548 = .ok (.iload_n 2, 1) := by decide +kernel
theorem dL_hangs_549 : decode cL_hangs 549 = .ok (.aload_n 0, 1) := by decide +kernel
theorem dL_hangs_550 : decode cL_hangs 550 = .ok (.invokevirtual 208, 3) := by decide +kernel
theorem dL_hangs_553 : decode cL_hangs 553 = .ok (.iadd, 1) := by decide +kernel
theorem dL_hangs_554 : decode cL_hangs 554 = .ok (.aload_n 0, 1) := by decide +kernel
theorem dL_hangs_555 : decode cL_hangs 555 = .ok (.invokevirtual 147, 3) := by decide +kernel
theorem dL_hangs_558 : decode cL_hangs 558 = .ok (.if_icmp .ne 34, 3) := by decide +kernel
theorem dL_hangs_561 : decode cL_hangs 561 = .ok (.aload_n 0, 1) := by decide +kernel
theorem dL_hangs_562 : decode cL_hangs 562 = .ok (.invokevirtual 147, 3) := by decide +kernel
theorem dL_hangs_565 : decode cL_hangs 565 = .ok (.bipush 64, 2) := by decide +kernel
theorem dL_hangs_567 : decode cL_hangs 567 = .ok (.if_icmp .gt 25, 3) := by decide +kernel
theorem dL_hangs_570 : decode cL_hangs 570 = .ok (.aload_n 0, 1) := by decide +kernel
theorem dL_hangs_571 : decode cL_hangs 571 = .ok (.invokevirtual 211, 3) := by decide +kernel
theorem dL_hangs_574 : decode cL_hangs 574 = .ok (.dconst 1, 1) := by decide +kernel
theorem dL_hangs_575 : decode cL_hangs 575 = .ok (.dcmp .g, 1) := by decide +kernel
theorem dL_hangs_576 : decode cL_hangs 576 = .ok (.ifCond .gt 16, 3) := by decide +kernel
theorem dL_hangs_579 : decode cL_hangs 579 = .ok (.aload_n 0, 1) := by decide +kernel
theorem dL_hangs_580 : decode cL_hangs 580 = .ok (.invokevirtual 211, 3) := by decide +kernel
theorem dL_hangs_583 : decode cL_hangs 583 = .ok (.dconst 0, 1) := by decide +kernel
theorem dL_hangs_584 : decode cL_hangs 584 = .ok (.dcmp .l, 1) := by decide +kernel
theorem dL_hangs_585 : decode cL_hangs 585 = .ok (.ifCond .le 7, 3) := by decide +kernel
theorem dL_hangs_588 : decode cL_hangs 588 = .ok (.iconst 1, 1) := by decide +kernel
theorem dL_hangs_589 : decode cL_hangs 589 = .ok (.goto 4, 3) := by decide +kernel
theorem dL_hangs_592 : decode cL_hangs 592 = .ok (.iconst 0, 1) := by decide +kernel
theorem dL_hangs_593 : decode cL_hangs 593 = .ok (.ireturn, 1) := by decide +kernel
theorem dL_law_0 : decode cL_law 0 = .ok (.new 10, 3) := by decide +kernel
theorem dL_law_3 : decode cL_law 3 = .ok (.dup, 1) := by decide +kernel
theorem dL_law_4 : decode cL_law 4 = .ok (.invokespecial 215, 3) := by decide +kernel
theorem dL_law_7 : decode cL_law 7 = .ok (.astore_n 1, 1) := by decide +kernel
theorem dL_law_8 : decode cL_law 8 = .ok (.aload_n 1, 1) := by decide +kernel
theorem dL_law_9 : decode cL_law 9 = .ok (.invokestatic 216, 3) := by decide +kernel
theorem dL_law_12 : decode cL_law 12 = .ok (.ldc 17, 2) := by decide +kernel
theorem dL_law_14 : decode cL_law 14 = .ok (.if_icmp .ne 23, 3) := by decide +kernel
theorem dL_law_17 : decode cL_law 17 = .ok (.aload_n 1, 1) := by decide +kernel
theorem dL_law_18 : decode cL_law 18 = .ok (.invokestatic 218, 3) := by decide +kernel
theorem dL_law_21 : decode cL_law 21 = .ok (.ldc 17, 2) := by decide +kernel
theorem dL_law_23 : decode cL_law 23 = .ok (.if_icmp .ne 14, 3) := by decide +kernel
theorem dL_law_26 : decode cL_law 26 = .ok (.aload_n 1, 1) := by decide +kernel
theorem dL_law_27 : decode cL_law 27 = .ok (.invokestatic 220, 3) := by decide +kernel
theorem dL_law_30 : decode cL_law 30 = .ok (.ifCond .eq 7, 3) := by decide +kernel
theorem dL_law_33 : decode cL_law 33 = .ok (.iconst 1, 1) := by decide +kernel
theorem dL_law_34 : decode cL_law 34 = .ok (.goto 4, 3) := by decide +kernel
theorem dL_law_37 : decode cL_law 37 = .ok (.iconst 0, 1) := by decide +kernel
theorem dL_law_38 : decode cL_law 38 = .ok (.istore_n 2, 1) := by decide +kernel
theorem dL_law_39 : decode cL_law 39 = .ok (.iconst 0, 1) := by decide +kernel
theorem dL_law_40 : decode cL_law 40 = .ok (.istore_n 3, 1) := by decide +kernel
theorem dL_law_41 : decode cL_law 41 = .ok (.iload_n 3, 1) := by decide +kernel
theorem dL_law_42 : decode cL_law 42 = .ok (.bipush 60, 2) := by decide +kernel
theorem dL_law_44 : decode cL_law 44 = .ok (.if_icmp .ge 321, 3) := by decide +kernel
theorem dL_law_47 : decode cL_law 47 = .ok (.iload_n 2, 1) := by decide +kernel
theorem dL_law_48 : decode cL_law 48 = .ok (.ifCond .eq 317, 3) := by decide +kernel
theorem dL_law_51 : decode cL_law 51 = .ok (.iload_n 3, 1) := by decide +kernel
theorem dL_law_52 : decode cL_law 52 = .ok (.iconst 3, 1) := by decide +kernel
theorem dL_law_53 : decode cL_law 53 = .ok (.if_icmp .ge 17, 3) := by decide +kernel
theorem dL_law_56 : decode cL_law 56 = .ok (.aload_n 0, 1) := by decide +kernel
theorem dL_law_57 : decode cL_law 57 = .ok (.iload_n 3, 1) := by decide +kernel
theorem dL_law_58 : decode cL_law 58 = .ok (.invokestatic 224, 3) := by decide +kernel
theorem dL_law_61 : decode cL_law 61 = .ok (.bipush 16, 2) := by decide +kernel
theorem dL_law_63 : decode cL_law 63 = .ok (.idiv, 1) := by decide +kernel
theorem dL_law_64 : decode cL_law 64 = .ok (.bipush 16, 2) := by decide +kernel
theorem dL_law_66 : decode cL_law 66 = .ok (.imul, 1) := by decide +kernel
theorem dL_law_67 : decode cL_law 67 = .ok (.goto 8, 3) := by decide +kernel
theorem dL_law_70 : decode cL_law 70 = .ok (.aload_n 0, 1) := by decide +kernel
theorem dL_law_71 : decode cL_law 71 = .ok (.iload_n 3, 1) := by decide +kernel
theorem dL_law_72 : decode cL_law 72 = .ok (.invokestatic 224, 3) := by decide +kernel
theorem dL_law_75 : decode cL_law 75 = .ok (.istore 4, 2) := by decide +kernel
theorem dL_law_77 : decode cL_law 77 = .ok (.aload_n 1, 1) := by decide +kernel
theorem dL_law_78 : decode cL_law 78 = .ok (.invokestatic 228, 3) := by decide +kernel
theorem dL_law_81 : decode cL_law 81 = .ok (.istore 5, 2) := by decide +kernel
theorem dL_law_83 : decode cL_law 83 = .ok (.aload_n 1, 1) := by decide +kernel
theorem dL_law_84 : decode cL_law 84 = .ok (.invokevirtual 231, 3) := by decide +kernel
theorem dL_law_87 : decode cL_law 87 = .ok (.istore 6, 2) := by decide +kernel
theorem dL_law_89 : decode cL_law 89 = .ok (.aload_n 1, 1) := by decide +kernel
theorem dL_law_90 : decode cL_law 90 = .ok (.invokevirtual 147, 3) := by decide +kernel
theorem dL_law_93 : decode cL_law 93 = .ok (.istore 7, 2) := by decide +kernel
theorem dL_law_95 : decode cL_law 95 = .ok (.aload_n 1, 1) := by decide +kernel
theorem dL_law_96 : decode cL_law 96 = .ok (.invokevirtual 153, 3) := by decide +kernel
theorem dL_law_99 : decode cL_law 99 = .ok (.istore 8, 2) := by decide +kernel
theorem dL_law_101 : decode cL_law 101 = .ok (.aload_n 1, 1) := by decide +kernel
theorem dL_law_102 : decode cL_law 102 = .ok (.invokevirtual 208, 3) := by decide +kernel
theorem dL_law_105 : decode cL_law 105 = .ok (.ifCond .le 7, 3) := by decide +kernel
theorem dL_law_108 : decode cL_law 108 = .ok (.iconst 1, 1) := by decide +kernel
theorem dL_law_109 : decode cL_law 109 = .ok (.goto 4, 3) := by decide +kernel
theorem dL_law_112 : decode cL_law 112 = .ok (.iconst 0, 1) := by decide +kernel
theorem dL_law_113 : decode cL_law 113 = .ok (.istore 9, 2) := by decide +kernel
theorem dL_law_115 : decode cL_law 115 = .ok (.aload_n 1, 1) := by decide +kernel
theorem dL_law_116 : decode cL_law 116 = .ok (.iload 4, 2) := by decide +kernel
theorem dL_law_118 : decode cL_law 118 = .ok (.invokestatic 234, 3) := by decide +kernel
theorem dL_law_121 : decode cL_law 121 = .ok (.istore 10, 2) := by decide +kernel
theorem dL_law_123 : decode cL_law 123 = .ok (.aload_n 1, 1) := by decide +kernel
theorem dL_law_124 : decode cL_law 124 = .ok (.invokevirtual 237, 3) := by decide +kernel
theorem dL_law_127 : decode cL_law 127 = .ok (.pop, 1) := by decide +kernel
theorem dL_law_128 : decode cL_law 128 = .ok (.iload 10, 2) := by decide +kernel
theorem dL_law_130 : decode cL_law 130 = .ok (.ifCond .ge 30, 3) := by decide +kernel
theorem dL_law_133 : decode cL_law 133 = .ok (.aload_n 1, 1) := by decide +kernel
theorem dL_law_134 : decode cL_law 134 = .ok (.invokestatic 228, 3) := by decide +kernel
theorem dL_law_137 : decode cL_law 137 = .ok (.iload 5, 2) := by decide +kernel
theorem dL_law_139 : decode cL_law 139 = .ok (.if_icmp .ne 16, 3) := by decide +kernel
theorem dL_law_142 : decode cL_law 142 = .ok (.aload_n 1, 1) := by decide +kernel
theorem dL_law_143 : decode cL_law 143 = .ok (.invokevirtual 231, 3) := by decide +kernel
theorem dL_law_146 : decode cL_law 146 = .ok (.iload 6, 2) := by decide +kernel
theorem dL_law_148 : decode cL_law 148 = .ok (.if_icmp .ne 7, 3) := by decide +kernel
theorem dL_law_151 : decode cL_law 151 = .ok (.iconst 1, 1) := by decide +kernel
theorem dL_law_152 : decode cL_law 152 = .ok (.goto 4, 3) := by decide +kernel
theorem dL_law_155 : decode cL_law 155 = .ok (.iconst 0, 1) := by decide +kernel
theorem dL_law_156 : decode cL_law 156 = .ok (.istore_n 2, 1) := by decide +kernel
theorem dL_law_157 : decode cL_law 157 = .ok (.goto 202, 3) := by decide +kernel
theorem dL_law_160 : decode cL_law 160 = .ok (.aload_n 1, 1) := by decide +kernel
theorem dL_law_161 : decode cL_law 161 = .ok (.invokevirtual 231, 3) := by decide +kernel
theorem dL_law_164 : decode cL_law 164 = .ok (.iload 6, 2) := by decide +kernel
theorem dL_law_166 : decode cL_law 166 = .ok (.iconst 5, 1) := by decide +kernel
theorem dL_law_167 : decode cL_law 167 = .ok (.if_icmp .ne 7, 3) := by decide +kernel
theorem dL_law_170 : decode cL_law 170 = .ok (.iconst 5, 1) := by decide +kernel
theorem dL_law_171 : decode cL_law 171 = .ok (.goto 7, 3) := by decide +kernel
theorem dL_law_174 : decode cL_law 174 = .ok (.iload 6, 2) := by decide +kernel
theorem dL_law_176 : decode cL_law 176 = .ok (.iconst 1, 1) := by decide +kernel
theorem dL_law_177 : decode cL_law 177 = .ok (.iadd, 1) := by decide +kernel
theorem dL_law_178 : decode cL_law 178 = .ok (.if_icmp .ne 21, 3) := by decide +kernel
theorem dL_law_181 : decode cL_law 181 = .ok (.iload 4, 2) := by decide +kernel
theorem dL_law_183 : decode cL_law 183 = .ok (.iconst 3, 1) := by decide +kernel
theorem dL_law_184 : decode cL_law 184 = .ok (.irem, 1) := by decide +kernel
theorem dL_law_185 : decode cL_law 185 = .ok (.ifCond .gt 10, 3) := by decide +kernel
theorem dL_law_188 : decode cL_law 188 = .ok (.aload_n 1, 1) := by decide +kernel
theorem dL_law_189 : decode cL_law 189 = .ok (.invokestatic 220, 3) := by decide +kernel
theorem dL_law_192 : decode cL_law 192 = .ok (.ifCond .eq 7, 3) := by decide +kernel
theorem dL_law_195 : decode cL_law 195 = .ok (.iconst 1, 1) := by decide +kernel
theorem dL_law_196 : decode cL_law 196 = .ok (.goto 4, 3) := by decide +kernel
theorem dL_law_199 : decode cL_law 199 = .ok (.iconst 0, 1) := by decide +kernel
theorem dL_law_200 : decode cL_law 200 = .ok (.istore_n 2, 1) := by decide +kernel
theorem dL_law_201 : decode cL_law 201 = .ok (.iload_n 2, 1) := by decide +kernel
theorem dL_law_202 : decode cL_law 202 = .ok (.ifCond .eq 72, 3) := by decide +kernel
theorem dL_law_205 : decode cL_law 205 = .ok (.iload 4, 2) := by decide +kernel
theorem dL_law_207 : decode cL_law 207 = .ok (.bipush 16, 2) := by decide +kernel
theorem dL_law_209 : decode cL_law 209 = .ok (.irem, 1) := by decide +kernel
theorem dL_law_210 : decode cL_law 210 = .ok (.bipush 7, 2) := by decide +kernel
theorem dL_law_212 : decode cL_law 212 = .ok (.if_icmp .le 62, 3) := by decide +kernel
theorem dL_law_215 : decode cL_law 215 = .ok (.iload 4, 2) := by decide +kernel
theorem dL_law_217 : decode cL_law 217 = .ok (.bipush 16, 2) := by decide +kernel
theorem dL_law_219 : decode cL_law 219 = .ok (.irem, 1) := by decide +kernel
theorem dL_law_220 : decode cL_law 220 = .ok (.bipush 11, 2) := by decide +kernel
theorem dL_law_222 : decode cL_law 222 = .ok (.if_icmp .ge 52, 3) := by decide +kernel
theorem dL_law_225 : decode cL_law 225 = .ok (.iload 9, 2) := by decide +kernel
theorem dL_law_227 : decode cL_law 227 = .ok (.ifCond .ne 47, 3) := by decide +kernel
theorem dL_law_230 : decode cL_law 230 = .ok (.aload_n 1, 1) := by decide +kernel
theorem dL_law_231 : decode cL_law 231 = .ok (.invokevirtual 153, 3) := by decide +kernel
theorem dL_law_234 : decode cL_law 234 = .ok (.iload 8, 2) := by decide +kernel
theorem dL_law_236 : decode cL_law 236 = .ok (.iconst 1, 1) := by decide +kernel
theorem dL_law_237 : decode cL_law 237 = .ok (.iadd, 1) := by decide +kernel
theorem dL_law_238 : decode cL_law 238 = .ok (.if_icmp .ne 34, 3) := by decide +kernel
theorem dL_law_241 : decode cL_law 241 = .ok (.aload_n 1, 1) := by decide +kernel
theorem dL_law_242 : decode cL_law 242 = .ok (.invokevirtual 147, 3) := by decide +kernel
theorem dL_law_245 : decode cL_law 245 = .ok (.iload 7, 2) := by decide +kernel
theorem dL_law_247 : decode cL_law 247 = .ok (.aload_n 1, 1) := by decide +kernel
theorem dL_law_248 : decode cL_law 248 = .ok (.aload_n 1, 1) := by decide +kernel
theorem dL_law_249 : decode cL_law 249 = .ok (.iload 8, 2) := by decide +kernel
theorem dL_law_251 : decode cL_law 251 = .ok (.invokestatic 200, 3) := by decide +kernel
theorem dL_law_254 : decode cL_law 254 = .ok (.invokestatic 202, 3) := by decide +kernel
theorem dL_law_257 : decode cL_law 257 = .ok (.iadd, 1) := by decide +kernel
theorem dL_law_258 : decode cL_law 258 = .ok (.if_icmp .ne 14, 3) := by decide +kernel
theorem dL_law_261 : decode cL_law 261 = .ok (.aload_n 1, 1) := by decide +kernel
theorem dL_law_262 : decode cL_law 262 = .ok (.invokevirtual 208, 3) := by decide +kernel
theorem dL_law_265 : decode cL_law 265 = .ok (.ifCond .ne 7, 3) := by decide +kernel
theorem dL_law_268 : decode cL_law 268 = .ok (.iconst 1, 1) := by decide +kernel
theorem dL_law_269 : decode cL_law 269 = .ok (.goto 4, 3) := by decide +kernel
theorem dL_law_272 : decode cL_law 272 = .ok (.iconst 0, 1) := by decide +kernel
theorem dL_law_273 : decode cL_law 273 = .ok (.istore_n 2, 1) := by decide +kernel
theorem dL_law_274 : decode cL_law 274 = .ok (.iload_n 2, 1) := by decide +kernel
theorem dL_law_275 : decode cL_law 275 = .ok (.ifCond .eq 84, 3) := by decide +kernel
theorem dL_law_278 : decode cL_law 278 = .ok (.iload 4, 2) := by decide +kernel
theorem dL_law_280 : decode cL_law 280 = .ok (.bipush 7, 2) := by decide +kernel
theorem dL_law_282 : decode cL_law 282 = .ok (.idiv, 1) := by decide +kernel
theorem dL_law_283 : decode cL_law 283 = .ok (.iconst 4, 1) := by decide +kernel
theorem dL_law_284 : decode cL_law 284 = .ok (.irem, 1) := by decide +kernel
theorem dL_law_285 : decode cL_law 285 = .ok (.ifCond .ne 74, 3) := by decide +kernel
theorem dL_law_288 : decode cL_law 288 = .ok (.aload_n 1, 1) := by decide +kernel
theorem dL_law_289 : decode cL_law 289 = .ok (.invokestatic 228, 3) := by decide +kernel
theorem dL_law_292 : decode cL_law 292 = .ok (.istore 11, 2) := by decide +kernel
theorem dL_law_294 : decode cL_law 294 = .ok (.aload_n 1, 1) := by decide +kernel
theorem dL_law_295 : decode cL_law 295 = .ok (.invokevirtual 240, 3) := by decide +kernel
theorem dL_law_298 : decode cL_law 298 = .ok (.aload_n 1, 1) := by decide +kernel
theorem dL_law_299 : decode cL_law 299 = .ok (.invokevirtual 205, 3) := by decide +kernel
theorem dL_law_302 : decode cL_law 302 = .ok (.if_icmp .ne 55, 3) := by decide +kernel
theorem dL_law_305 : decode cL_law 305 = .ok (.aload_n 1, 1) := by decide +kernel
theorem dL_law_306 : decode cL_law 306 = .ok (.invokestatic 216, 3) := by decide +kernel
theorem dL_law_309 : decode cL_law 309 = .ok (.iload 6, 2) := by decide +kernel
theorem dL_law_311 : decode cL_law 311 = .ok (.iconst 5, 1) := by decide +kernel
theorem dL_law_312 : decode cL_law 312 = .ok (.if_icmp .ne 7, 3) := by decide +kernel
theorem dL_law_315 : decode cL_law 315 = .ok (.iconst 4, 1) := by decide +kernel
theorem dL_law_316 : decode cL_law 316 = .ok (.goto 5, 3) := by decide +kernel
theorem dL_law_319 : decode cL_law 319 = .ok (.iload 6, 2) := by decide +kernel
theorem dL_law_321 : decode cL_law 321 = .ok (.if_icmp .ne 36, 3) := by decide +kernel
theorem dL_law_324 : decode cL_law 324 = .ok (.aload_n 1, 1) := by decide +kernel
theorem dL_law_325 : decode cL_law 325 = .ok (.invokestatic 228, 3) := by decide +kernel
theorem dL_law_328 : decode cL_law 328 = .ok (.iload 5, 2) := by decide +kernel
theorem dL_law_330 : decode cL_law 330 = .ok (.if_icmp .ne 27, 3) := by decide +kernel
theorem dL_law_333 : decode cL_law 333 = .ok (.aload_n 1, 1) := by decide +kernel
theorem dL_law_334 : decode cL_law 334 = .ok (.invokestatic 218, 3) := by decide +kernel
theorem dL_law_337 : decode cL_law 337 = .ok (.aload_n 1, 1) := by decide +kernel
theorem dL_law_338 : decode cL_law 338 = .ok (.invokevirtual 205, 3) := by decide +kernel
theorem dL_law_341 : decode cL_law 341 = .ok (.if_icmp .ne 16, 3) := by decide +kernel
theorem dL_law_344 : decode cL_law 344 = .ok (.aload_n 1, 1) := by decide +kernel
theorem dL_law_345 : decode cL_law 345 = .ok (.invokestatic 228, 3) := by decide +kernel
theorem dL_law_348 : decode cL_law 348 = .ok (.iload 11, 2) := by decide +kernel
theorem dL_law_350 : decode cL_law 350 = .ok (.if_icmp .ne 7, 3) := by decide +kernel
theorem dL_law_353 : decode cL_law 353 = .ok (.iconst 1, 1) := by decide +kernel
theorem dL_law_354 : decode cL_law 354 = .ok (.goto 4, 3) := by decide +kernel
theorem dL_law_357 : decode cL_law 357 = .ok (.iconst 0, 1) := by decide +kernel
theorem dL_law_358 : decode cL_law 358 = .ok (.istore_n 2, 1) := by decide +kernel
theorem dL_law_359 : decode cL_law 359 = .ok (.iinc 3 1, 3) := by decide +kernel
theorem dL_law_362 : decode cL_law 362 = .ok (.goto (-321), 3) := by decide +kernel
theorem dL_law_365 : decode cL_law 365 = .ok (.iload_n 2, 1) := by decide +kernel
theorem dL_law_366 : decode cL_law 366 = .ok (.ifCond .eq 14, 3) := by decide +kernel
theorem dL_law_369 : decode cL_law 369 = .ok (.aload_n 1, 1) := by decide +kernel
theorem dL_law_370 : decode cL_law 370 = .ok (.invokestatic 220, 3) := by decide +kernel
theorem dL_law_373 : decode cL_law 373 = .ok (.ifCond .eq 7, 3) := by decide +kernel
theorem dL_law_376 : decode cL_law 376 = .ok (.iconst 1, 1) := by decide +kernel
theorem dL_law_377 : decode cL_law 377 = .ok (.goto 4, 3) := by decide +kernel
theorem dL_law_380 : decode cL_law 380 = .ok (.iconst 0, 1) := by decide +kernel
theorem dL_law_381 : decode cL_law 381 = .ok (.ireturn, 1) := by decide +kernel
