/-! instructions -/
theorem dd_La_put_0 : decode bb_La_put 0 = .ok (.aload_n 0, 1) := by decide +kernel
theorem dd_La_put_1 : decode bb_La_put 1 = .ok (.iload_n 1, 1) := by decide +kernel
theorem dd_La_put_2 : decode bb_La_put 2 = .ok (.lload_n 2, 1) := by decide +kernel
theorem dd_La_put_3 : decode bb_La_put 3 = .ok (.invokevirtual 7, 3) := by decide +kernel
theorem dd_La_put_6 : decode bb_La_put 6 = .ok (.goto 7, 3) := by decide +kernel
theorem dd_La_put_9 : decode bb_La_put 9 = .ok (.astore 4, 2) := by decide +kernel
theorem dd_La_put_11 : decode bb_La_put 11 = .ok (.iconst 1, 1) := by decide +kernel
theorem dd_La_put_12 : decode bb_La_put 12 = .ok (.ireturn, 1) := by decide +kernel
theorem dd_La_put_13 : decode bb_La_put 13 = .ok (.iconst 0, 1) := by decide +kernel
theorem dd_La_put_14 : decode bb_La_put 14 = .ok (.ireturn, 1) := by decide +kernel
theorem dd_La_erase_0 : decode bb_La_erase 0 = .ok (.aload_n 0, 1) := by decide +kernel
theorem dd_La_erase_1 : decode bb_La_erase 1 = .ok (.iload_n 1, 1) := by decide +kernel
theorem dd_La_erase_2 : decode bb_La_erase 2 = .ok (.iload_n 2, 1) := by decide +kernel
theorem dd_La_erase_3 : decode bb_La_erase 3 = .ok (.invokevirtual 15, 3) := by decide +kernel
theorem dd_La_erase_6 : decode bb_La_erase 6 = .ok (.goto 6, 3) := by decide +kernel
theorem dd_La_erase_9 : decode bb_La_erase 9 = .ok (.astore_n 3, 1) := by decide +kernel
theorem dd_La_erase_10 : decode bb_La_erase 10 = .ok (.iconst 1, 1) := by decide +kernel
theorem dd_La_erase_11 : decode bb_La_erase 11 = .ok (.ireturn, 1) := by decide +kernel
theorem dd_La_erase_12 : decode bb_La_erase 12 = .ok (.iconst 0, 1) := by decide +kernel
theorem dd_La_erase_13 : decode bb_La_erase 13 = .ok (.ireturn, 1) := by decide +kernel
theorem dd_La_get_0 : decode bb_La_get 0 = .ok (.aload_n 2, 1) := by decide +kernel
theorem dd_La_get_1 : decode bb_La_get 1 = .ok (.iconst 0, 1) := by decide +kernel
theorem dd_La_get_2 : decode bb_La_get 2 = .ok (.aload_n 0, 1) := by decide +kernel
theorem dd_La_get_3 : decode bb_La_get 3 = .ok (.iload_n 1, 1) := by decide +kernel
theorem dd_La_get_4 : decode bb_La_get 4 = .ok (.invokevirtual 19, 3) := by decide +kernel
theorem dd_La_get_7 : decode bb_La_get 7 = .ok (.lastore, 1) := by decide +kernel
theorem dd_La_get_8 : decode bb_La_get 8 = .ok (.goto 9, 3) := by decide +kernel
theorem dd_La_get_11 : decode bb_La_get 11 = .ok (.astore_n 3, 1) := by decide +kernel
theorem dd_La_get_12 : decode bb_La_get 12 = .ok (.iconst 1, 1) := by decide +kernel
theorem dd_La_get_13 : decode bb_La_get 13 = .ok (.ireturn, 1) := by decide +kernel
theorem dd_La_get_14 : decode bb_La_get 14 = .ok (.astore_n 3, 1) := by decide +kernel
theorem dd_La_get_15 : decode bb_La_get 15 = .ok (.iconst 2, 1) := by decide +kernel
theorem dd_La_get_16 : decode bb_La_get 16 = .ok (.ireturn, 1) := by decide +kernel
theorem dd_La_get_17 : decode bb_La_get 17 = .ok (.iconst 0, 1) := by decide +kernel
theorem dd_La_get_18 : decode bb_La_get 18 = .ok (.ireturn, 1) := by decide +kernel
theorem dd_La_sum_0 : decode bb_La_sum 0 = .ok (.aload_n 3, 1) := by decide +kernel
theorem dd_La_sum_1 : decode bb_La_sum 1 = .ok (.iconst 0, 1) := by decide +kernel
theorem dd_La_sum_2 : decode bb_La_sum 2 = .ok (.aload_n 0, 1) := by decide +kernel
theorem dd_La_sum_3 : decode bb_La_sum 3 = .ok (.iload_n 1, 1) := by decide +kernel
theorem dd_La_sum_4 : decode bb_La_sum 4 = .ok (.iload_n 2, 1) := by decide +kernel
theorem dd_La_sum_5 : decode bb_La_sum 5 = .ok (.invokevirtual 25, 3) := by decide +kernel
theorem dd_La_sum_8 : decode bb_La_sum 8 = .ok (.lastore, 1) := by decide +kernel
theorem dd_La_sum_9 : decode bb_La_sum 9 = .ok (.goto 7, 3) := by decide +kernel
theorem dd_La_sum_12 : decode bb_La_sum 12 = .ok (.astore 4, 2) := by decide +kernel
theorem dd_La_sum_14 : decode bb_La_sum 14 = .ok (.iconst 1, 1) := by decide +kernel
theorem dd_La_sum_15 : decode bb_La_sum 15 = .ok (.ireturn, 1) := by decide +kernel
theorem dd_La_sum_16 : decode bb_La_sum 16 = .ok (.iconst 0, 1) := by decide +kernel
theorem dd_La_sum_17 : decode bb_La_sum 17 = .ok (.ireturn, 1) := by decide +kernel
theorem dd_La_code_0 : decode bb_La_code 0 = .ok (.aload_n 2, 1) := by decide +kernel
theorem dd_La_code_1 : decode bb_La_code 1 = .ok (.iconst 0, 1) := by decide +kernel
theorem dd_La_code_2 : decode bb_La_code 2 = .ok (.aload_n 0, 1) := by decide +kernel
theorem dd_La_code_3 : decode bb_La_code 3 = .ok (.iload_n 1, 1) := by decide +kernel
theorem dd_La_code_4 : decode bb_La_code 4 = .ok (.invokevirtual 29, 3) := by decide +kernel
theorem dd_La_code_7 : decode bb_La_code 7 = .ok (.lastore, 1) := by decide +kernel
theorem dd_La_code_8 : decode bb_La_code 8 = .ok (.goto 6, 3) := by decide +kernel
theorem dd_La_code_11 : decode bb_La_code 11 = .ok (.astore_n 3, 1) := by decide +kernel
theorem dd_La_code_12 : decode bb_La_code 12 = .ok (.iconst 1, 1) := by decide +kernel
theorem dd_La_code_13 : decode bb_La_code 13 = .ok (.ireturn, 1) := by decide +kernel
theorem dd_La_code_14 : decode bb_La_code 14 = .ok (.iconst 0, 1) := by decide +kernel
theorem dd_La_code_15 : decode bb_La_code 15 = .ok (.ireturn, 1) := by decide +kernel
theorem dd_La_feed_0 : decode bb_La_feed 0 = .ok (.aload 4, 2) := by decide +kernel
theorem dd_La_feed_2 : decode bb_La_feed 2 = .ok (.iconst 0, 1) := by decide +kernel
theorem dd_La_feed_3 : decode bb_La_feed 3 = .ok (.aload_n 0, 1) := by decide +kernel
theorem dd_La_feed_4 : decode bb_La_feed 4 = .ok (.lload_n 1, 1) := by decide +kernel
theorem dd_La_feed_5 : decode bb_La_feed 5 = .ok (.iload_n 3, 1) := by decide +kernel
theorem dd_La_feed_6 : decode bb_La_feed 6 = .ok (.invokevirtual 32, 3) := by decide +kernel
theorem dd_La_feed_9 : decode bb_La_feed 9 = .ok (.i2l, 1) := by decide +kernel
theorem dd_La_feed_10 : decode bb_La_feed 10 = .ok (.lastore, 1) := by decide +kernel
theorem dd_La_feed_11 : decode bb_La_feed 11 = .ok (.goto 11, 3) := by decide +kernel
theorem dd_La_feed_14 : decode bb_La_feed 14 = .ok (.astore 5, 2) := by decide +kernel
theorem dd_La_feed_16 : decode bb_La_feed 16 = .ok (.iconst 1, 1) := by decide +kernel
theorem dd_La_feed_17 : decode bb_La_feed 17 = .ok (.ireturn, 1) := by decide +kernel
theorem dd_La_feed_18 : decode bb_La_feed 18 = .ok (.astore 5, 2) := by decide +kernel
theorem dd_La_feed_20 : decode bb_La_feed 20 = .ok (.iconst 2, 1) := by decide +kernel
theorem dd_La_feed_21 : decode bb_La_feed 21 = .ok (.ireturn, 1) := by decide +kernel
theorem dd_La_feed_22 : decode bb_La_feed 22 = .ok (.iconst 0, 1) := by decide +kernel
theorem dd_La_feed_23 : decode bb_La_feed 23 = .ok (.ireturn, 1) := by decide +kernel
theorem dd_La_decode_0 : decode bb_La_decode 0 = .ok (.aload_n 1, 1) := by decide +kernel
theorem dd_La_decode_1 : decode bb_La_decode 1 = .ok (.iconst 0, 1) := by decide +kernel
theorem dd_La_decode_2 : decode bb_La_decode 2 = .ok (.aload_n 0, 1) := by decide +kernel
theorem dd_La_decode_3 : decode bb_La_decode 3 = .ok (.invokevirtual 38, 3) := by decide +kernel
theorem dd_La_decode_6 : decode bb_La_decode 6 = .ok (.i2l, 1) := by decide +kernel
theorem dd_La_decode_7 : decode bb_La_decode 7 = .ok (.lastore, 1) := by decide +kernel
theorem dd_La_decode_8 : decode bb_La_decode 8 = .ok (.goto 6, 3) := by decide +kernel
theorem dd_La_decode_11 : decode bb_La_decode 11 = .ok (.astore_n 2, 1) := by decide +kernel
theorem dd_La_decode_12 : decode bb_La_decode 12 = .ok (.iconst 1, 1) := by decide +kernel
theorem dd_La_decode_13 : decode bb_La_decode 13 = .ok (.ireturn, 1) := by decide +kernel
theorem dd_La_decode_14 : decode bb_La_decode 14 = .ok (.iconst 0, 1) := by decide +kernel
theorem dd_La_decode_15 : decode bb_La_decode 15 = .ok (.ireturn, 1) := by decide +kernel
theorem dd_La_count_0 : decode bb_La_count 0 = .ok (.aload_n 2, 1) := by decide +kernel
theorem dd_La_count_1 : decode bb_La_count 1 = .ok (.iconst 0, 1) := by decide +kernel
theorem dd_La_count_2 : decode bb_La_count 2 = .ok (.aload_n 0, 1) := by decide +kernel
theorem dd_La_count_3 : decode bb_La_count 3 = .ok (.iload_n 1, 1) := by decide +kernel
theorem dd_La_count_4 : decode bb_La_count 4 = .ok (.invokevirtual 42, 3) := by decide +kernel
theorem dd_La_count_7 : decode bb_La_count 7 = .ok (.i2l, 1) := by decide +kernel
theorem dd_La_count_8 : decode bb_La_count 8 = .ok (.lastore, 1) := by decide +kernel
theorem dd_La_count_9 : decode bb_La_count 9 = .ok (.goto 6, 3) := by decide +kernel
theorem dd_La_count_12 : decode bb_La_count 12 = .ok (.astore_n 3, 1) := by decide +kernel
theorem dd_La_count_13 : decode bb_La_count 13 = .ok (.iconst 1, 1) := by decide +kernel
theorem dd_La_count_14 : decode bb_La_count 14 = .ok (.ireturn, 1) := by decide +kernel
theorem dd_La_count_15 : decode bb_La_count 15 = .ok (.iconst 0, 1) := by decide +kernel
theorem dd_La_count_16 : decode bb_La_count 16 = .ok (.ireturn, 1) := by decide +kernel
