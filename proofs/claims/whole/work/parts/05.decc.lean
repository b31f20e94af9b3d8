/-! instructions -/
theorem dd_Mo_init_0 : decode bb_Mo_init 0 = .ok (.aload_n 0, 1) := by decide +kernel
theorem dd_Mo_init_1 : decode bb_Mo_init 1 = .ok (.invokespecial 1, 3) := by decide +kernel
theorem dd_Mo_init_4 : decode bb_Mo_init 4 = .ok (.aload_n 0, 1) := by decide +kernel
theorem dd_Mo_init_5 : decode bb_Mo_init 5 = .ok (.bipush 64, 2) := by decide +kernel
theorem dd_Mo_init_7 : decode bb_Mo_init 7 = .ok (.newarray .long, 2) := by decide +kernel
theorem dd_Mo_init_9 : decode bb_Mo_init 9 = .ok (.putfield 7, 3) := by decide +kernel
theorem dd_Mo_init_12 : decode bb_Mo_init 12 = .ok (.aload_n 0, 1) := by decide +kernel
theorem dd_Mo_init_13 : decode bb_Mo_init 13 = .ok (.bipush 64, 2) := by decide +kernel
theorem dd_Mo_init_15 : decode bb_Mo_init 15 = .ok (.newarray .long, 2) := by decide +kernel
theorem dd_Mo_init_17 : decode bb_Mo_init 17 = .ok (.putfield 13, 3) := by decide +kernel
theorem dd_Mo_init_20 : decode bb_Mo_init 20 = .ok (.aload_n 0, 1) := by decide +kernel
theorem dd_Mo_init_21 : decode bb_Mo_init 21 = .ok (.bipush 64, 2) := by decide +kernel
theorem dd_Mo_init_23 : decode bb_Mo_init 23 = .ok (.newarray .boolean, 2) := by decide +kernel
theorem dd_Mo_init_25 : decode bb_Mo_init 25 = .ok (.putfield 16, 3) := by decide +kernel
theorem dd_Mo_init_28 : decode bb_Mo_init 28 = .ok (.aload_n 0, 1) := by decide +kernel
theorem dd_Mo_init_29 : decode bb_Mo_init 29 = .ok (.bipush 64, 2) := by decide +kernel
theorem dd_Mo_init_31 : decode bb_Mo_init 31 = .ok (.newarray .boolean, 2) := by decide +kernel
theorem dd_Mo_init_33 : decode bb_Mo_init 33 = .ok (.putfield 20, 3) := by decide +kernel
theorem dd_Mo_init_36 : decode bb_Mo_init 36 = .ok (.aload_n 0, 1) := by decide +kernel
theorem dd_Mo_init_37 : decode bb_Mo_init 37 = .ok (.sipush 720, 3) := by decide +kernel
theorem dd_Mo_init_40 : decode bb_Mo_init 40 = .ok (.newarray .int, 2) := by decide +kernel
theorem dd_Mo_init_42 : decode bb_Mo_init 42 = .ok (.putfield 23, 3) := by decide +kernel
theorem dd_Mo_init_45 : decode bb_Mo_init 45 = .ok (.aload_n 0, 1) := by decide +kernel
theorem dd_Mo_init_46 : decode bb_Mo_init 46 = .ok (.sipush 720, 3) := by decide +kernel
theorem dd_Mo_init_49 : decode bb_Mo_init 49 = .ok (.newarray .int, 2) := by decide +kernel
theorem dd_Mo_init_51 : decode bb_Mo_init 51 = .ok (.putfield 27, 3) := by decide +kernel
theorem dd_Mo_init_54 : decode bb_Mo_init 54 = .ok (.aload_n 0, 1) := by decide +kernel
theorem dd_Mo_init_55 : decode bb_Mo_init 55 = .ok (.sipush 1000, 3) := by decide +kernel
theorem dd_Mo_init_58 : decode bb_Mo_init 58 = .ok (.newarray .int, 2) := by decide +kernel
theorem dd_Mo_init_60 : decode bb_Mo_init 60 = .ok (.putfield 30, 3) := by decide +kernel
theorem dd_Mo_init_63 : decode bb_Mo_init 63 = .ok (.aload_n 0, 1) := by decide +kernel
theorem dd_Mo_init_64 : decode bb_Mo_init 64 = .ok (.iconst (-1), 1) := by decide +kernel
theorem dd_Mo_init_65 : decode bb_Mo_init 65 = .ok (.putfield 33, 3) := by decide +kernel
theorem dd_Mo_init_68 : decode bb_Mo_init 68 = .ok (.return_, 1) := by decide +kernel
theorem dd_Mo_thrown_0 : decode bb_Mo_thrown 0 = .ok (.aload_n 0, 1) := by decide +kernel
theorem dd_Mo_thrown_1 : decode bb_Mo_thrown 1 = .ok (.getfield 37, 3) := by decide +kernel
theorem dd_Mo_thrown_4 : decode bb_Mo_thrown 4 = .ok (.ireturn, 1) := by decide +kernel
theorem dd_Mo_put_0 : decode bb_Mo_put 0 = .ok (.aload_n 0, 1) := by decide +kernel
theorem dd_Mo_put_1 : decode bb_Mo_put 1 = .ok (.iload_n 1, 1) := by decide +kernel
theorem dd_Mo_put_2 : decode bb_Mo_put 2 = .ok (.invokestatic 40, 3) := by decide +kernel
theorem dd_Mo_put_5 : decode bb_Mo_put 5 = .ok (.iconst 1, 1) := by decide +kernel
theorem dd_Mo_put_6 : decode bb_Mo_put 6 = .ok (.invokevirtual 44, 3) := by decide +kernel
theorem dd_Mo_put_9 : decode bb_Mo_put 9 = .ok (.ifCond .eq 4, 3) := by decide +kernel
theorem dd_Mo_put_12 : decode bb_Mo_put 12 = .ok (.return_, 1) := by decide +kernel
theorem dd_Mo_put_13 : decode bb_Mo_put 13 = .ok (.aload_n 0, 1) := by decide +kernel
theorem dd_Mo_put_14 : decode bb_Mo_put 14 = .ok (.getfield 7, 3) := by decide +kernel
theorem dd_Mo_put_17 : decode bb_Mo_put 17 = .ok (.iload_n 1, 1) := by decide +kernel
theorem dd_Mo_put_18 : decode bb_Mo_put 18 = .ok (.lload_n 2, 1) := by decide +kernel
theorem dd_Mo_put_19 : decode bb_Mo_put 19 = .ok (.lastore, 1) := by decide +kernel
theorem dd_Mo_put_20 : decode bb_Mo_put 20 = .ok (.aload_n 0, 1) := by decide +kernel
theorem dd_Mo_put_21 : decode bb_Mo_put 21 = .ok (.getfield 16, 3) := by decide +kernel
theorem dd_Mo_put_24 : decode bb_Mo_put 24 = .ok (.iload_n 1, 1) := by decide +kernel
theorem dd_Mo_put_25 : decode bb_Mo_put 25 = .ok (.iconst 1, 1) := by decide +kernel
theorem dd_Mo_put_26 : decode bb_Mo_put 26 = .ok (.bastore, 1) := by decide +kernel
theorem dd_Mo_put_27 : decode bb_Mo_put 27 = .ok (.return_, 1) := by decide +kernel
theorem dd_Mo_none_0 : decode bb_Mo_none 0 = .ok (.iload_n 0, 1) := by decide +kernel
theorem dd_Mo_none_1 : decode bb_Mo_none 1 = .ok (.ifCond .lt 9, 3) := by decide +kernel
theorem dd_Mo_none_4 : decode bb_Mo_none 4 = .ok (.iload_n 0, 1) := by decide +kernel
theorem dd_Mo_none_5 : decode bb_Mo_none 5 = .ok (.bipush 64, 2) := by decide +kernel
theorem dd_Mo_none_7 : decode bb_Mo_none 7 = .ok (.if_icmp .lt 7, 3) := by decide +kernel
theorem dd_Mo_none_10 : decode bb_Mo_none 10 = .ok (.iconst 1, 1) := by decide +kernel
theorem dd_Mo_none_11 : decode bb_Mo_none 11 = .ok (.goto 4, 3) := by decide +kernel
theorem dd_Mo_none_14 : decode bb_Mo_none 14 = .ok (.iconst 0, 1) := by decide +kernel
theorem dd_Mo_none_15 : decode bb_Mo_none 15 = .ok (.ireturn, 1) := by decide +kernel
theorem dd_Mo_fails_0 : decode bb_Mo_fails 0 = .ok (.aload_n 0, 1) := by decide +kernel
theorem dd_Mo_fails_1 : decode bb_Mo_fails 1 = .ok (.iload_n 1, 1) := by decide +kernel
theorem dd_Mo_fails_2 : decode bb_Mo_fails 2 = .ok (.ifCond .eq 7, 3) := by decide +kernel
theorem dd_Mo_fails_5 : decode bb_Mo_fails 5 = .ok (.iload_n 2, 1) := by decide +kernel
theorem dd_Mo_fails_6 : decode bb_Mo_fails 6 = .ok (.goto 4, 3) := by decide +kernel
theorem dd_Mo_fails_9 : decode bb_Mo_fails 9 = .ok (.iconst 0, 1) := by decide +kernel
theorem dd_Mo_fails_10 : decode bb_Mo_fails 10 = .ok (.putfield 37, 3) := by decide +kernel
theorem dd_Mo_fails_13 : decode bb_Mo_fails 13 = .ok (.iload_n 1, 1) := by decide +kernel
theorem dd_Mo_fails_14 : decode bb_Mo_fails 14 = .ok (.ireturn, 1) := by decide +kernel
theorem dd_Mo_erase_0 : decode bb_Mo_erase 0 = .ok (.aload_n 0, 1) := by decide +kernel
theorem dd_Mo_erase_1 : decode bb_Mo_erase 1 = .ok (.iload_n 1, 1) := by decide +kernel
theorem dd_Mo_erase_2 : decode bb_Mo_erase 2 = .ok (.invokestatic 40, 3) := by decide +kernel
theorem dd_Mo_erase_5 : decode bb_Mo_erase 5 = .ok (.ifCond .ne 10, 3) := by decide +kernel
theorem dd_Mo_erase_8 : decode bb_Mo_erase 8 = .ok (.iload_n 2, 1) := by decide +kernel
theorem dd_Mo_erase_9 : decode bb_Mo_erase 9 = .ok (.invokestatic 40, 3) := by decide +kernel
theorem dd_Mo_erase_12 : decode bb_Mo_erase 12 = .ok (.ifCond .eq 7, 3) := by decide +kernel
theorem dd_Mo_erase_15 : decode bb_Mo_erase 15 = .ok (.iconst 1, 1) := by decide +kernel
theorem dd_Mo_erase_16 : decode bb_Mo_erase 16 = .ok (.goto 4, 3) := by decide +kernel
theorem dd_Mo_erase_19 : decode bb_Mo_erase 19 = .ok (.iconst 0, 1) := by decide +kernel
theorem dd_Mo_erase_20 : decode bb_Mo_erase 20 = .ok (.iconst 1, 1) := by decide +kernel
theorem dd_Mo_erase_21 : decode bb_Mo_erase 21 = .ok (.invokevirtual 44, 3) := by decide +kernel
theorem dd_Mo_erase_24 : decode bb_Mo_erase 24 = .ok (.ifCond .eq 4, 3) := by decide +kernel
theorem dd_Mo_erase_27 : decode bb_Mo_erase 27 = .ok (.return_, 1) := by decide +kernel
theorem dd_Mo_erase_28 : decode bb_Mo_erase 28 = .ok (.iload_n 1, 1) := by decide +kernel
theorem dd_Mo_erase_29 : decode bb_Mo_erase 29 = .ok (.istore_n 3, 1) := by decide +kernel
theorem dd_Mo_erase_30 : decode bb_Mo_erase 30 = .ok (.iload_n 3, 1) := by decide +kernel
theorem dd_Mo_erase_31 : decode bb_Mo_erase 31 = .ok (.iload_n 2, 1) := by decide +kernel
theorem dd_Mo_erase_32 : decode bb_Mo_erase 32 = .ok (.if_icmp .gt 16, 3) := by decide +kernel
theorem dd_Mo_erase_35 : decode bb_Mo_erase 35 = .ok (.aload_n 0, 1) := by decide +kernel
theorem dd_Mo_erase_36 : decode bb_Mo_erase 36 = .ok (.getfield 16, 3) := by decide +kernel
theorem dd_Mo_erase_39 : decode bb_Mo_erase 39 = .ok (.iload_n 3, 1) := by decide +kernel
theorem dd_Mo_erase_40 : decode bb_Mo_erase 40 = .ok (.iconst 0, 1) := by decide +kernel
theorem dd_Mo_erase_41 : decode bb_Mo_erase 41 = .ok (.bastore, 1) := by decide +kernel
theorem dd_Mo_erase_42 : decode bb_Mo_erase 42 = .ok (.iinc 3 1, 3) := by decide +kernel
theorem dd_Mo_erase_45 : decode bb_Mo_erase 45 = .ok (.goto (-15), 3) := by decide +kernel
theorem dd_Mo_erase_48 : decode bb_Mo_erase 48 = .ok (.return_, 1) := by decide +kernel
theorem dd_Mo_get_0 : decode bb_Mo_get 0 = .ok (.aload_n 0, 1) := by decide +kernel
theorem dd_Mo_get_1 : decode bb_Mo_get 1 = .ok (.iload_n 1, 1) := by decide +kernel
theorem dd_Mo_get_2 : decode bb_Mo_get 2 = .ok (.invokestatic 40, 3) := by decide +kernel
theorem dd_Mo_get_5 : decode bb_Mo_get 5 = .ok (.iconst 1, 1) := by decide +kernel
theorem dd_Mo_get_6 : decode bb_Mo_get 6 = .ok (.invokevirtual 44, 3) := by decide +kernel
theorem dd_Mo_get_9 : decode bb_Mo_get 9 = .ok (.ifCond .eq 5, 3) := by decide +kernel
theorem dd_Mo_get_12 : decode bb_Mo_get 12 = .ok (.lconst 0, 1) := by decide +kernel
theorem dd_Mo_get_13 : decode bb_Mo_get 13 = .ok (.lreturn, 1) := by decide +kernel
theorem dd_Mo_get_14 : decode bb_Mo_get 14 = .ok (.aload_n 0, 1) := by decide +kernel
theorem dd_Mo_get_15 : decode bb_Mo_get 15 = .ok (.aload_n 0, 1) := by decide +kernel
theorem dd_Mo_get_16 : decode bb_Mo_get 16 = .ok (.getfield 16, 3) := by decide +kernel
theorem dd_Mo_get_19 : decode bb_Mo_get 19 = .ok (.iload_n 1, 1) := by decide +kernel
theorem dd_Mo_get_20 : decode bb_Mo_get 20 = .ok (.baload, 1) := by decide +kernel
theorem dd_Mo_get_21 : decode bb_Mo_get 21 = .ok (.ifCond .ne 7, 3) := by decide +kernel
theorem dd_Mo_get_24 : decode bb_Mo_get 24 = .ok (.iconst 1, 1) := by decide +kernel
theorem dd_Mo_get_25 : decode bb_Mo_get 25 = .ok (.goto 4, 3) := by decide +kernel
theorem dd_Mo_get_28 : decode bb_Mo_get 28 = .ok (.iconst 0, 1) := by decide +kernel
theorem dd_Mo_get_29 : decode bb_Mo_get 29 = .ok (.iconst 2, 1) := by decide +kernel
theorem dd_Mo_get_30 : decode bb_Mo_get 30 = .ok (.invokevirtual 44, 3) := by decide +kernel
theorem dd_Mo_get_33 : decode bb_Mo_get 33 = .ok (.ifCond .eq 7, 3) := by decide +kernel
theorem dd_Mo_get_36 : decode bb_Mo_get 36 = .ok (.lconst 0, 1) := by decide +kernel
theorem dd_Mo_get_37 : decode bb_Mo_get 37 = .ok (.goto 9, 3) := by decide +kernel
theorem dd_Mo_get_40 : decode bb_Mo_get 40 = .ok (.aload_n 0, 1) := by decide +kernel
theorem dd_Mo_get_41 : decode bb_Mo_get 41 = .ok (.getfield 7, 3) := by decide +kernel
theorem dd_Mo_get_44 : decode bb_Mo_get 44 = .ok (.iload_n 1, 1) := by decide +kernel
theorem dd_Mo_get_45 : decode bb_Mo_get 45 = .ok (.laload, 1) := by decide +kernel
theorem dd_Mo_get_46 : decode bb_Mo_get 46 = .ok (.lreturn, 1) := by decide +kernel
theorem dd_Mo_sum_0 : decode bb_Mo_sum 0 = .ok (.aload_n 0, 1) := by decide +kernel
theorem dd_Mo_sum_1 : decode bb_Mo_sum 1 = .ok (.iload_n 1, 1) := by decide +kernel
theorem dd_Mo_sum_2 : decode bb_Mo_sum 2 = .ok (.invokestatic 40, 3) := by decide +kernel
theorem dd_Mo_sum_5 : decode bb_Mo_sum 5 = .ok (.ifCond .ne 10, 3) := by decide +kernel
theorem dd_Mo_sum_8 : decode bb_Mo_sum 8 = .ok (.iload_n 2, 1) := by decide +kernel
theorem dd_Mo_sum_9 : decode bb_Mo_sum 9 = .ok (.invokestatic 40, 3) := by decide +kernel
theorem dd_Mo_sum_12 : decode bb_Mo_sum 12 = .ok (.ifCond .eq 7, 3) := by decide +kernel
theorem dd_Mo_sum_15 : decode bb_Mo_sum 15 = .ok (.iconst 1, 1) := by decide +kernel
theorem dd_Mo_sum_16 : decode bb_Mo_sum 16 = .ok (.goto 4, 3) := by decide +kernel
theorem dd_Mo_sum_19 : decode bb_Mo_sum 19 = .ok (.iconst 0, 1) := by decide +kernel
theorem dd_Mo_sum_20 : decode bb_Mo_sum 20 = .ok (.iconst 1, 1) := by decide +kernel
theorem dd_Mo_sum_21 : decode bb_Mo_sum 21 = .ok (.invokevirtual 44, 3) := by decide +kernel
theorem dd_Mo_sum_24 : decode bb_Mo_sum 24 = .ok (.ifCond .eq 5, 3) := by decide +kernel
theorem dd_Mo_sum_27 : decode bb_Mo_sum 27 = .ok (.lconst 0, 1) := by decide +kernel
theorem dd_Mo_sum_28 : decode bb_Mo_sum 28 = .ok (.lreturn, 1) := by decide +kernel
theorem dd_Mo_sum_29 : decode bb_Mo_sum 29 = .ok (.lconst 0, 1) := by decide +kernel
theorem dd_Mo_sum_30 : decode bb_Mo_sum 30 = .ok (.lstore_n 3, 1) := by decide +kernel
theorem dd_Mo_sum_31 : decode bb_Mo_sum 31 = .ok (.iload_n 1, 1) := by decide +kernel
theorem dd_Mo_sum_32 : decode bb_Mo_sum 32 = .ok (.istore 5, 2) := by decide +kernel
theorem dd_Mo_sum_34 : decode bb_Mo_sum 34 = .ok (.iload 5, 2) := by decide +kernel
theorem dd_Mo_sum_36 : decode bb_Mo_sum 36 = .ok (.iload_n 2, 1) := by decide +kernel
theorem dd_Mo_sum_37 : decode bb_Mo_sum 37 = .ok (.if_icmp .gt 29, 3) := by decide +kernel
theorem dd_Mo_sum_40 : decode bb_Mo_sum 40 = .ok (.aload_n 0, 1) := by decide +kernel
theorem dd_Mo_sum_41 : decode bb_Mo_sum 41 = .ok (.getfield 16, 3) := by decide +kernel
theorem dd_Mo_sum_44 : decode bb_Mo_sum 44 = .ok (.iload 5, 2) := by decide +kernel
theorem dd_Mo_sum_46 : decode bb_Mo_sum 46 = .ok (.baload, 1) := by decide +kernel
theorem dd_Mo_sum_47 : decode bb_Mo_sum 47 = .ok (.ifCond .eq 13, 3) := by decide +kernel
theorem dd_Mo_sum_50 : decode bb_Mo_sum 50 = .ok (.lload_n 3, 1) := by decide +kernel
theorem dd_Mo_sum_51 : decode bb_Mo_sum 51 = .ok (.aload_n 0, 1) := by decide +kernel
theorem dd_Mo_sum_52 : decode bb_Mo_sum 52 = .ok (.getfield 7, 3) := by decide +kernel
theorem dd_Mo_sum_55 : decode bb_Mo_sum 55 = .ok (.iload 5, 2) := by decide +kernel
theorem dd_Mo_sum_57 : decode bb_Mo_sum 57 = .ok (.laload, 1) := by decide +kernel
theorem dd_Mo_sum_58 : decode bb_Mo_sum 58 = .ok (.ladd, 1) := by decide +kernel
theorem dd_Mo_sum_59 : decode bb_Mo_sum 59 = .ok (.lstore_n 3, 1) := by decide +kernel
theorem dd_Mo_sum_60 : decode bb_Mo_sum 60 = .ok (.iinc 5 1, 3) := by decide +kernel
theorem dd_Mo_sum_63 : decode bb_Mo_sum 63 = .ok (.goto (-29), 3) := by decide +kernel
theorem dd_Mo_sum_66 : decode bb_Mo_sum 66 = .ok (.lload_n 3, 1) := by decide +kernel
theorem dd_Mo_sum_67 : decode bb_Mo_sum 67 = .ok (.lreturn, 1) := by decide +kernel
theorem dd_Mo_encode_0 : decode bb_Mo_encode 0 = .ok (.aload_n 0, 1) := by decide +kernel
theorem dd_Mo_encode_1 : decode bb_Mo_encode 1 = .ok (.iconst 0, 1) := by decide +kernel
theorem dd_Mo_encode_2 : decode bb_Mo_encode 2 = .ok (.putfield 37, 3) := by decide +kernel
theorem dd_Mo_encode_5 : decode bb_Mo_encode 5 = .ok (.aload_n 0, 1) := by decide +kernel
theorem dd_Mo_encode_6 : decode bb_Mo_encode 6 = .ok (.invokevirtual 57, 3) := by decide +kernel
theorem dd_Mo_encode_9 : decode bb_Mo_encode 9 = .ok (.pop, 1) := by decide +kernel
theorem dd_Mo_encode_10 : decode bb_Mo_encode 10 = .ok (.aload_n 0, 1) := by decide +kernel
theorem dd_Mo_encode_11 : decode bb_Mo_encode 11 = .ok (.aload_n 0, 1) := by decide +kernel
theorem dd_Mo_encode_12 : decode bb_Mo_encode 12 = .ok (.getfield 48, 3) := by decide +kernel
theorem dd_Mo_encode_15 : decode bb_Mo_encode 15 = .ok (.putfield 61, 3) := by decide +kernel
theorem dd_Mo_encode_18 : decode bb_Mo_encode 18 = .ok (.iconst 0, 1) := by decide +kernel
theorem dd_Mo_encode_19 : decode bb_Mo_encode 19 = .ok (.istore_n 1, 1) := by decide +kernel
theorem dd_Mo_encode_20 : decode bb_Mo_encode 20 = .ok (.iload_n 1, 1) := by decide +kernel
theorem dd_Mo_encode_21 : decode bb_Mo_encode 21 = .ok (.aload_n 0, 1) := by decide +kernel
theorem dd_Mo_encode_22 : decode bb_Mo_encode 22 = .ok (.getfield 61, 3) := by decide +kernel
theorem dd_Mo_encode_25 : decode bb_Mo_encode 25 = .ok (.if_icmp .ge 21, 3) := by decide +kernel
theorem dd_Mo_encode_28 : decode bb_Mo_encode 28 = .ok (.aload_n 0, 1) := by decide +kernel
theorem dd_Mo_encode_29 : decode bb_Mo_encode 29 = .ok (.getfield 23, 3) := by decide +kernel
theorem dd_Mo_encode_32 : decode bb_Mo_encode 32 = .ok (.iload_n 1, 1) := by decide +kernel
theorem dd_Mo_encode_33 : decode bb_Mo_encode 33 = .ok (.aload_n 0, 1) := by decide +kernel
theorem dd_Mo_encode_34 : decode bb_Mo_encode 34 = .ok (.getfield 27, 3) := by decide +kernel
theorem dd_Mo_encode_37 : decode bb_Mo_encode 37 = .ok (.iload_n 1, 1) := by decide +kernel
theorem dd_Mo_encode_38 : decode bb_Mo_encode 38 = .ok (.iaload, 1) := by decide +kernel
theorem dd_Mo_encode_39 : decode bb_Mo_encode 39 = .ok (.iastore, 1) := by decide +kernel
theorem dd_Mo_encode_40 : decode bb_Mo_encode 40 = .ok (.iinc 1 1, 3) := by decide +kernel
theorem dd_Mo_encode_43 : decode bb_Mo_encode 43 = .ok (.goto (-23), 3) := by decide +kernel
theorem dd_Mo_encode_46 : decode bb_Mo_encode 46 = .ok (.aload_n 0, 1) := by decide +kernel
theorem dd_Mo_encode_47 : decode bb_Mo_encode 47 = .ok (.getfield 61, 3) := by decide +kernel
theorem dd_Mo_encode_50 : decode bb_Mo_encode 50 = .ok (.ireturn, 1) := by decide +kernel
theorem dd_Mo_lay_0 : decode bb_Mo_lay 0 = .ok (.aload_n 0, 1) := by decide +kernel
theorem dd_Mo_lay_1 : decode bb_Mo_lay 1 = .ok (.bipush 8, 2) := by decide +kernel
theorem dd_Mo_lay_3 : decode bb_Mo_lay 3 = .ok (.putfield 48, 3) := by decide +kernel
theorem dd_Mo_lay_6 : decode bb_Mo_lay 6 = .ok (.iconst 0, 1) := by decide +kernel
theorem dd_Mo_lay_7 : decode bb_Mo_lay 7 = .ok (.istore_n 1, 1) := by decide +kernel
theorem dd_Mo_lay_8 : decode bb_Mo_lay 8 = .ok (.iload_n 1, 1) := by decide +kernel
theorem dd_Mo_lay_9 : decode bb_Mo_lay 9 = .ok (.bipush 8, 2) := by decide +kernel
theorem dd_Mo_lay_11 : decode bb_Mo_lay 11 = .ok (.if_icmp .ge 56, 3) := by decide +kernel
theorem dd_Mo_lay_14 : decode bb_Mo_lay 14 = .ok (.aload_n 0, 1) := by decide +kernel
theorem dd_Mo_lay_15 : decode bb_Mo_lay 15 = .ok (.getfield 27, 3) := by decide +kernel
theorem dd_Mo_lay_18 : decode bb_Mo_lay 18 = .ok (.iload_n 1, 1) := by decide +kernel
theorem dd_Mo_lay_19 : decode bb_Mo_lay 19 = .ok (.iconst 0, 1) := by decide +kernel
theorem dd_Mo_lay_20 : decode bb_Mo_lay 20 = .ok (.iastore, 1) := by decide +kernel
theorem dd_Mo_lay_21 : decode bb_Mo_lay 21 = .ok (.iconst 0, 1) := by decide +kernel
theorem dd_Mo_lay_22 : decode bb_Mo_lay 22 = .ok (.istore_n 2, 1) := by decide +kernel
theorem dd_Mo_lay_23 : decode bb_Mo_lay 23 = .ok (.iload_n 2, 1) := by decide +kernel
theorem dd_Mo_lay_24 : decode bb_Mo_lay 24 = .ok (.bipush 8, 2) := by decide +kernel
theorem dd_Mo_lay_26 : decode bb_Mo_lay 26 = .ok (.if_icmp .ge 35, 3) := by decide +kernel
theorem dd_Mo_lay_29 : decode bb_Mo_lay 29 = .ok (.aload_n 0, 1) := by decide +kernel
theorem dd_Mo_lay_30 : decode bb_Mo_lay 30 = .ok (.getfield 16, 3) := by decide +kernel
theorem dd_Mo_lay_33 : decode bb_Mo_lay 33 = .ok (.bipush 8, 2) := by decide +kernel
theorem dd_Mo_lay_35 : decode bb_Mo_lay 35 = .ok (.iload_n 1, 1) := by decide +kernel
theorem dd_Mo_lay_36 : decode bb_Mo_lay 36 = .ok (.imul, 1) := by decide +kernel
theorem dd_Mo_lay_37 : decode bb_Mo_lay 37 = .ok (.iload_n 2, 1) := by decide +kernel
theorem dd_Mo_lay_38 : decode bb_Mo_lay 38 = .ok (.iadd, 1) := by decide +kernel
theorem dd_Mo_lay_39 : decode bb_Mo_lay 39 = .ok (.baload, 1) := by decide +kernel
theorem dd_Mo_lay_40 : decode bb_Mo_lay 40 = .ok (.ifCond .eq 15, 3) := by decide +kernel
theorem dd_Mo_lay_43 : decode bb_Mo_lay 43 = .ok (.aload_n 0, 1) := by decide +kernel
theorem dd_Mo_lay_44 : decode bb_Mo_lay 44 = .ok (.getfield 27, 3) := by decide +kernel
theorem dd_Mo_lay_47 : decode bb_Mo_lay 47 = .ok (.iload_n 1, 1) := by decide +kernel
theorem dd_Mo_lay_48 : decode bb_Mo_lay 48 = .ok (.dup2, 1) := by decide +kernel
theorem dd_Mo_lay_49 : decode bb_Mo_lay 49 = .ok (.iaload, 1) := by decide +kernel
theorem dd_Mo_lay_50 : decode bb_Mo_lay 50 = .ok (.iconst 1, 1) := by decide +kernel
theorem dd_Mo_lay_51 : decode bb_Mo_lay 51 = .ok (.iload_n 2, 1) := by decide +kernel
theorem dd_Mo_lay_52 : decode bb_Mo_lay 52 = .ok (.ishl, 1) := by decide +kernel
theorem dd_Mo_lay_53 : decode bb_Mo_lay 53 = .ok (.ior, 1) := by decide +kernel
theorem dd_Mo_lay_54 : decode bb_Mo_lay 54 = .ok (.iastore, 1) := by decide +kernel
theorem dd_Mo_lay_55 : decode bb_Mo_lay 55 = .ok (.iinc 2 1, 3) := by decide +kernel
theorem dd_Mo_lay_58 : decode bb_Mo_lay 58 = .ok (.goto (-35), 3) := by decide +kernel
theorem dd_Mo_lay_61 : decode bb_Mo_lay 61 = .ok (.iinc 1 1, 3) := by decide +kernel
theorem dd_Mo_lay_64 : decode bb_Mo_lay 64 = .ok (.goto (-56), 3) := by decide +kernel
theorem dd_Mo_lay_67 : decode bb_Mo_lay 67 = .ok (.iconst 0, 1) := by decide +kernel
theorem dd_Mo_lay_68 : decode bb_Mo_lay 68 = .ok (.istore_n 1, 1) := by decide +kernel
theorem dd_Mo_lay_69 : decode bb_Mo_lay 69 = .ok (.aload_n 0, 1) := by decide +kernel
theorem dd_Mo_lay_70 : decode bb_Mo_lay 70 = .ok (.iconst 0, 1) := by decide +kernel
theorem dd_Mo_lay_71 : decode bb_Mo_lay 71 = .ok (.invokevirtual 51, 3) := by decide +kernel
theorem dd_Mo_lay_74 : decode bb_Mo_lay 74 = .ok (.istore_n 2, 1) := by decide +kernel
theorem dd_Mo_lay_75 : decode bb_Mo_lay 75 = .ok (.lconst 0, 1) := by decide +kernel
theorem dd_Mo_lay_76 : decode bb_Mo_lay 76 = .ok (.lstore_n 3, 1) := by decide +kernel
theorem dd_Mo_lay_77 : decode bb_Mo_lay 77 = .ok (.iload_n 2, 1) := by decide +kernel
theorem dd_Mo_lay_78 : decode bb_Mo_lay 78 = .ok (.bipush 64, 2) := by decide +kernel
theorem dd_Mo_lay_80 : decode bb_Mo_lay 80 = .ok (.if_icmp .ge 148, 3) := by decide +kernel
theorem dd_Mo_lay_83 : decode bb_Mo_lay 83 = .ok (.iconst 0, 1) := by decide +kernel
theorem dd_Mo_lay_84 : decode bb_Mo_lay 84 = .ok (.istore 5, 2) := by decide +kernel
theorem dd_Mo_lay_86 : decode bb_Mo_lay 86 = .ok (.aload_n 0, 1) := by decide +kernel
theorem dd_Mo_lay_87 : decode bb_Mo_lay 87 = .ok (.getfield 7, 3) := by decide +kernel
theorem dd_Mo_lay_90 : decode bb_Mo_lay 90 = .ok (.iload_n 2, 1) := by decide +kernel
theorem dd_Mo_lay_91 : decode bb_Mo_lay 91 = .ok (.laload, 1) := by decide +kernel
theorem dd_Mo_lay_92 : decode bb_Mo_lay 92 = .ok (.lstore 6, 2) := by decide +kernel
theorem dd_Mo_lay_94 : decode bb_Mo_lay 94 = .ok (.lload 6, 2) := by decide +kernel
theorem dd_Mo_lay_96 : decode bb_Mo_lay 96 = .ok (.lload_n 3, 1) := by decide +kernel
theorem dd_Mo_lay_97 : decode bb_Mo_lay 97 = .ok (.lsub, 1) := by decide +kernel
theorem dd_Mo_lay_98 : decode bb_Mo_lay 98 = .ok (.lstore 8, 2) := by decide +kernel
theorem dd_Mo_lay_100 : decode bb_Mo_lay 100 = .ok (.iload_n 2, 1) := by decide +kernel
theorem dd_Mo_lay_101 : decode bb_Mo_lay 101 = .ok (.bipush 64, 2) := by decide +kernel
theorem dd_Mo_lay_103 : decode bb_Mo_lay 103 = .ok (.if_icmp .ge 29, 3) := by decide +kernel
theorem dd_Mo_lay_106 : decode bb_Mo_lay 106 = .ok (.aload_n 0, 1) := by decide +kernel
theorem dd_Mo_lay_107 : decode bb_Mo_lay 107 = .ok (.getfield 7, 3) := by decide +kernel
theorem dd_Mo_lay_110 : decode bb_Mo_lay 110 = .ok (.iload_n 2, 1) := by decide +kernel
theorem dd_Mo_lay_111 : decode bb_Mo_lay 111 = .ok (.laload, 1) := by decide +kernel
theorem dd_Mo_lay_112 : decode bb_Mo_lay 112 = .ok (.lload 6, 2) := by decide +kernel
theorem dd_Mo_lay_114 : decode bb_Mo_lay 114 = .ok (.lcmp, 1) := by decide +kernel
theorem dd_Mo_lay_115 : decode bb_Mo_lay 115 = .ok (.ifCond .ne 17, 3) := by decide +kernel
theorem dd_Mo_lay_118 : decode bb_Mo_lay 118 = .ok (.iinc 5 1, 3) := by decide +kernel
theorem dd_Mo_lay_121 : decode bb_Mo_lay 121 = .ok (.aload_n 0, 1) := by decide +kernel
theorem dd_Mo_lay_122 : decode bb_Mo_lay 122 = .ok (.iload_n 2, 1) := by decide +kernel
theorem dd_Mo_lay_123 : decode bb_Mo_lay 123 = .ok (.iconst 1, 1) := by decide +kernel
theorem dd_Mo_lay_124 : decode bb_Mo_lay 124 = .ok (.iadd, 1) := by decide +kernel
theorem dd_Mo_lay_125 : decode bb_Mo_lay 125 = .ok (.invokevirtual 51, 3) := by decide +kernel
theorem dd_Mo_lay_128 : decode bb_Mo_lay 128 = .ok (.istore_n 2, 1) := by decide +kernel
theorem dd_Mo_lay_129 : decode bb_Mo_lay 129 = .ok (.goto (-29), 3) := by decide +kernel
theorem dd_Mo_lay_132 : decode bb_Mo_lay 132 = .ok (.aload_n 0, 1) := by decide +kernel
theorem dd_Mo_lay_133 : decode bb_Mo_lay 133 = .ok (.getfield 27, 3) := by decide +kernel
theorem dd_Mo_lay_136 : decode bb_Mo_lay 136 = .ok (.aload_n 0, 1) := by decide +kernel
theorem dd_Mo_lay_137 : decode bb_Mo_lay 137 = .ok (.dup, 1) := by decide +kernel
theorem dd_Mo_lay_138 : decode bb_Mo_lay 138 = .ok (.getfield 48, 3) := by decide +kernel
theorem dd_Mo_lay_141 : decode bb_Mo_lay 141 = .ok (.dup_x1, 1) := by decide +kernel
theorem dd_Mo_lay_142 : decode bb_Mo_lay 142 = .ok (.iconst 1, 1) := by decide +kernel
theorem dd_Mo_lay_143 : decode bb_Mo_lay 143 = .ok (.iadd, 1) := by decide +kernel
theorem dd_Mo_lay_144 : decode bb_Mo_lay 144 = .ok (.putfield 48, 3) := by decide +kernel
theorem dd_Mo_lay_147 : decode bb_Mo_lay 147 = .ok (.iload 5, 2) := by decide +kernel
theorem dd_Mo_lay_149 : decode bb_Mo_lay 149 = .ok (.iastore, 1) := by decide +kernel
theorem dd_Mo_lay_150 : decode bb_Mo_lay 150 = .ok (.lload 8, 2) := by decide +kernel
theorem dd_Mo_lay_152 : decode bb_Mo_lay 152 = .ok (.iconst 1, 1) := by decide +kernel
theorem dd_Mo_lay_153 : decode bb_Mo_lay 153 = .ok (.lshl, 1) := by decide +kernel
theorem dd_Mo_lay_154 : decode bb_Mo_lay 154 = .ok (.lload 8, 2) := by decide +kernel
theorem dd_Mo_lay_156 : decode bb_Mo_lay 156 = .ok (.bipush 63, 2) := by decide +kernel
theorem dd_Mo_lay_158 : decode bb_Mo_lay 158 = .ok (.lshr, 1) := by decide +kernel
theorem dd_Mo_lay_159 : decode bb_Mo_lay 159 = .ok (.lxor, 1) := by decide +kernel
theorem dd_Mo_lay_160 : decode bb_Mo_lay 160 = .ok (.lstore 10, 2) := by decide +kernel
theorem dd_Mo_lay_162 : decode bb_Mo_lay 162 = .ok (.lload 10, 2) := by decide +kernel
theorem dd_Mo_lay_164 : decode bb_Mo_lay 164 = .ok (.ldc2_w 55, 3) := by decide +kernel
theorem dd_Mo_lay_167 : decode bb_Mo_lay 167 = .ok (.land, 1) := by decide +kernel
theorem dd_Mo_lay_168 : decode bb_Mo_lay 168 = .ok (.l2i, 1) := by decide +kernel
theorem dd_Mo_lay_169 : decode bb_Mo_lay 169 = .ok (.istore 12, 2) := by decide +kernel
theorem dd_Mo_lay_171 : decode bb_Mo_lay 171 = .ok (.lload 10, 2) := by decide +kernel
theorem dd_Mo_lay_173 : decode bb_Mo_lay 173 = .ok (.bipush 7, 2) := by decide +kernel
theorem dd_Mo_lay_175 : decode bb_Mo_lay 175 = .ok (.lushr, 1) := by decide +kernel
theorem dd_Mo_lay_176 : decode bb_Mo_lay 176 = .ok (.lstore 10, 2) := by decide +kernel
theorem dd_Mo_lay_178 : decode bb_Mo_lay 178 = .ok (.aload_n 0, 1) := by decide +kernel
theorem dd_Mo_lay_179 : decode bb_Mo_lay 179 = .ok (.getfield 27, 3) := by decide +kernel
theorem dd_Mo_lay_182 : decode bb_Mo_lay 182 = .ok (.aload_n 0, 1) := by decide +kernel
theorem dd_Mo_lay_183 : decode bb_Mo_lay 183 = .ok (.dup, 1) := by decide +kernel
theorem dd_Mo_lay_184 : decode bb_Mo_lay 184 = .ok (.getfield 48, 3) := by decide +kernel
theorem dd_Mo_lay_187 : decode bb_Mo_lay 187 = .ok (.dup_x1, 1) := by decide +kernel
theorem dd_Mo_lay_188 : decode bb_Mo_lay 188 = .ok (.iconst 1, 1) := by decide +kernel
theorem dd_Mo_lay_189 : decode bb_Mo_lay 189 = .ok (.iadd, 1) := by decide +kernel
theorem dd_Mo_lay_190 : decode bb_Mo_lay 190 = .ok (.putfield 48, 3) := by decide +kernel
theorem dd_Mo_lay_193 : decode bb_Mo_lay 193 = .ok (.lload 10, 2) := by decide +kernel
theorem dd_Mo_lay_195 : decode bb_Mo_lay 195 = .ok (.lconst 0, 1) := by decide +kernel
theorem dd_Mo_lay_196 : decode bb_Mo_lay 196 = .ok (.lcmp, 1) := by decide +kernel
theorem dd_Mo_lay_197 : decode bb_Mo_lay 197 = .ok (.ifCond .ne 8, 3) := by decide +kernel
theorem dd_Mo_lay_200 : decode bb_Mo_lay 200 = .ok (.iload 12, 2) := by decide +kernel
theorem dd_Mo_lay_202 : decode bb_Mo_lay 202 = .ok (.goto 9, 3) := by decide +kernel
theorem dd_Mo_lay_205 : decode bb_Mo_lay 205 = .ok (.iload 12, 2) := by decide +kernel
theorem dd_Mo_lay_207 : decode bb_Mo_lay 207 = .ok (.sipush 128, 3) := by decide +kernel
theorem dd_Mo_lay_210 : decode bb_Mo_lay 210 = .ok (.iadd, 1) := by decide +kernel
theorem dd_Mo_lay_211 : decode bb_Mo_lay 211 = .ok (.iastore, 1) := by decide +kernel
theorem dd_Mo_lay_212 : decode bb_Mo_lay 212 = .ok (.lload 10, 2) := by decide +kernel
theorem dd_Mo_lay_214 : decode bb_Mo_lay 214 = .ok (.lconst 0, 1) := by decide +kernel
theorem dd_Mo_lay_215 : decode bb_Mo_lay 215 = .ok (.lcmp, 1) := by decide +kernel
theorem dd_Mo_lay_216 : decode bb_Mo_lay 216 = .ok (.ifCond .ne (-54), 3) := by decide +kernel
theorem dd_Mo_lay_219 : decode bb_Mo_lay 219 = .ok (.lload 6, 2) := by decide +kernel
theorem dd_Mo_lay_221 : decode bb_Mo_lay 221 = .ok (.lstore_n 3, 1) := by decide +kernel
theorem dd_Mo_lay_222 : decode bb_Mo_lay 222 = .ok (.iinc 1 1, 3) := by decide +kernel
theorem dd_Mo_lay_225 : decode bb_Mo_lay 225 = .ok (.goto (-148), 3) := by decide +kernel
theorem dd_Mo_lay_228 : decode bb_Mo_lay 228 = .ok (.iload_n 1, 1) := by decide +kernel
theorem dd_Mo_lay_229 : decode bb_Mo_lay 229 = .ok (.ireturn, 1) := by decide +kernel
theorem dd_Mo_next_0 : decode bb_Mo_next 0 = .ok (.iload_n 1, 1) := by decide +kernel
theorem dd_Mo_next_1 : decode bb_Mo_next 1 = .ok (.istore_n 2, 1) := by decide +kernel
theorem dd_Mo_next_2 : decode bb_Mo_next 2 = .ok (.iload_n 2, 1) := by decide +kernel
theorem dd_Mo_next_3 : decode bb_Mo_next 3 = .ok (.bipush 64, 2) := by decide +kernel
theorem dd_Mo_next_5 : decode bb_Mo_next 5 = .ok (.if_icmp .ge 18, 3) := by decide +kernel
theorem dd_Mo_next_8 : decode bb_Mo_next 8 = .ok (.aload_n 0, 1) := by decide +kernel
theorem dd_Mo_next_9 : decode bb_Mo_next 9 = .ok (.getfield 16, 3) := by decide +kernel
theorem dd_Mo_next_12 : decode bb_Mo_next 12 = .ok (.iload_n 2, 1) := by decide +kernel
theorem dd_Mo_next_13 : decode bb_Mo_next 13 = .ok (.baload, 1) := by decide +kernel
theorem dd_Mo_next_14 : decode bb_Mo_next 14 = .ok (.ifCond .ne 9, 3) := by decide +kernel
theorem dd_Mo_next_17 : decode bb_Mo_next 17 = .ok (.iinc 2 1, 3) := by decide +kernel
theorem dd_Mo_next_20 : decode bb_Mo_next 20 = .ok (.goto (-18), 3) := by decide +kernel
theorem dd_Mo_next_23 : decode bb_Mo_next 23 = .ok (.iload_n 2, 1) := by decide +kernel
theorem dd_Mo_next_24 : decode bb_Mo_next 24 = .ok (.ireturn, 1) := by decide +kernel
theorem dd_Mo_code_0 : decode bb_Mo_code 0 = .ok (.aload_n 0, 1) := by decide +kernel
theorem dd_Mo_code_1 : decode bb_Mo_code 1 = .ok (.iload_n 1, 1) := by decide +kernel
theorem dd_Mo_code_2 : decode bb_Mo_code 2 = .ok (.ifCond .lt 17, 3) := by decide +kernel
theorem dd_Mo_code_5 : decode bb_Mo_code 5 = .ok (.iload_n 1, 1) := by decide +kernel
theorem dd_Mo_code_6 : decode bb_Mo_code 6 = .ok (.aload_n 0, 1) := by decide +kernel
theorem dd_Mo_code_7 : decode bb_Mo_code 7 = .ok (.getfield 61, 3) := by decide +kernel
theorem dd_Mo_code_10 : decode bb_Mo_code 10 = .ok (.bipush 7, 2) := by decide +kernel
theorem dd_Mo_code_12 : decode bb_Mo_code 12 = .ok (.iadd, 1) := by decide +kernel
theorem dd_Mo_code_13 : decode bb_Mo_code 13 = .ok (.bipush 8, 2) := by decide +kernel
theorem dd_Mo_code_15 : decode bb_Mo_code 15 = .ok (.idiv, 1) := by decide +kernel
theorem dd_Mo_code_16 : decode bb_Mo_code 16 = .ok (.if_icmp .lt 7, 3) := by decide +kernel
theorem dd_Mo_code_19 : decode bb_Mo_code 19 = .ok (.iconst 1, 1) := by decide +kernel
theorem dd_Mo_code_20 : decode bb_Mo_code 20 = .ok (.goto 4, 3) := by decide +kernel
theorem dd_Mo_code_23 : decode bb_Mo_code 23 = .ok (.iconst 0, 1) := by decide +kernel
theorem dd_Mo_code_24 : decode bb_Mo_code 24 = .ok (.iconst 1, 1) := by decide +kernel
theorem dd_Mo_code_25 : decode bb_Mo_code 25 = .ok (.invokevirtual 44, 3) := by decide +kernel
theorem dd_Mo_code_28 : decode bb_Mo_code 28 = .ok (.ifCond .eq 5, 3) := by decide +kernel
theorem dd_Mo_code_31 : decode bb_Mo_code 31 = .ok (.lconst 0, 1) := by decide +kernel
theorem dd_Mo_code_32 : decode bb_Mo_code 32 = .ok (.lreturn, 1) := by decide +kernel
theorem dd_Mo_code_33 : decode bb_Mo_code 33 = .ok (.lconst 0, 1) := by decide +kernel
theorem dd_Mo_code_34 : decode bb_Mo_code 34 = .ok (.lstore_n 2, 1) := by decide +kernel
theorem dd_Mo_code_35 : decode bb_Mo_code 35 = .ok (.bipush 8, 2) := by decide +kernel
theorem dd_Mo_code_37 : decode bb_Mo_code 37 = .ok (.iload_n 1, 1) := by decide +kernel
theorem dd_Mo_code_38 : decode bb_Mo_code 38 = .ok (.imul, 1) := by decide +kernel
theorem dd_Mo_code_39 : decode bb_Mo_code 39 = .ok (.istore 4, 2) := by decide +kernel
theorem dd_Mo_code_41 : decode bb_Mo_code 41 = .ok (.iload 4, 2) := by decide +kernel
theorem dd_Mo_code_43 : decode bb_Mo_code 43 = .ok (.bipush 8, 2) := by decide +kernel
theorem dd_Mo_code_45 : decode bb_Mo_code 45 = .ok (.iload_n 1, 1) := by decide +kernel
theorem dd_Mo_code_46 : decode bb_Mo_code 46 = .ok (.imul, 1) := by decide +kernel
theorem dd_Mo_code_47 : decode bb_Mo_code 47 = .ok (.bipush 8, 2) := by decide +kernel
theorem dd_Mo_code_49 : decode bb_Mo_code 49 = .ok (.iadd, 1) := by decide +kernel
theorem dd_Mo_code_50 : decode bb_Mo_code 50 = .ok (.if_icmp .ge 36, 3) := by decide +kernel
theorem dd_Mo_code_53 : decode bb_Mo_code 53 = .ok (.lload_n 2, 1) := by decide +kernel
theorem dd_Mo_code_54 : decode bb_Mo_code 54 = .ok (.bipush 8, 2) := by decide +kernel
theorem dd_Mo_code_56 : decode bb_Mo_code 56 = .ok (.lshl, 1) := by decide +kernel
theorem dd_Mo_code_57 : decode bb_Mo_code 57 = .ok (.iload 4, 2) := by decide +kernel
theorem dd_Mo_code_59 : decode bb_Mo_code 59 = .ok (.aload_n 0, 1) := by decide +kernel
theorem dd_Mo_code_60 : decode bb_Mo_code 60 = .ok (.getfield 61, 3) := by decide +kernel
theorem dd_Mo_code_63 : decode bb_Mo_code 63 = .ok (.if_icmp .ge 13, 3) := by decide +kernel
theorem dd_Mo_code_66 : decode bb_Mo_code 66 = .ok (.aload_n 0, 1) := by decide +kernel
theorem dd_Mo_code_67 : decode bb_Mo_code 67 = .ok (.getfield 23, 3) := by decide +kernel
theorem dd_Mo_code_70 : decode bb_Mo_code 70 = .ok (.iload 4, 2) := by decide +kernel
theorem dd_Mo_code_72 : decode bb_Mo_code 72 = .ok (.iaload, 1) := by decide +kernel
theorem dd_Mo_code_73 : decode bb_Mo_code 73 = .ok (.goto 4, 3) := by decide +kernel
theorem dd_Mo_code_76 : decode bb_Mo_code 76 = .ok (.iconst 0, 1) := by decide +kernel
theorem dd_Mo_code_77 : decode bb_Mo_code 77 = .ok (.i2l, 1) := by decide +kernel
theorem dd_Mo_code_78 : decode bb_Mo_code 78 = .ok (.lor, 1) := by decide +kernel
theorem dd_Mo_code_79 : decode bb_Mo_code 79 = .ok (.lstore_n 2, 1) := by decide +kernel
theorem dd_Mo_code_80 : decode bb_Mo_code 80 = .ok (.iinc 4 1, 3) := by decide +kernel
theorem dd_Mo_code_83 : decode bb_Mo_code 83 = .ok (.goto (-42), 3) := by decide +kernel
theorem dd_Mo_code_86 : decode bb_Mo_code 86 = .ok (.lload_n 2, 1) := by decide +kernel
theorem dd_Mo_code_87 : decode bb_Mo_code 87 = .ok (.lreturn, 1) := by decide +kernel
theorem dd_Mo_feed_0 : decode bb_Mo_feed 0 = .ok (.aload_n 0, 1) := by decide +kernel
theorem dd_Mo_feed_1 : decode bb_Mo_feed 1 = .ok (.iload_n 3, 1) := by decide +kernel
theorem dd_Mo_feed_2 : decode bb_Mo_feed 2 = .ok (.iconst 1, 1) := by decide +kernel
theorem dd_Mo_feed_3 : decode bb_Mo_feed 3 = .ok (.if_icmp .lt 9, 3) := by decide +kernel
theorem dd_Mo_feed_6 : decode bb_Mo_feed 6 = .ok (.iload_n 3, 1) := by decide +kernel
theorem dd_Mo_feed_7 : decode bb_Mo_feed 7 = .ok (.bipush 8, 2) := by decide +kernel
theorem dd_Mo_feed_9 : decode bb_Mo_feed 9 = .ok (.if_icmp .le 7, 3) := by decide +kernel
theorem dd_Mo_feed_12 : decode bb_Mo_feed 12 = .ok (.iconst 1, 1) := by decide +kernel
theorem dd_Mo_feed_13 : decode bb_Mo_feed 13 = .ok (.goto 4, 3) := by decide +kernel
theorem dd_Mo_feed_16 : decode bb_Mo_feed 16 = .ok (.iconst 0, 1) := by decide +kernel
theorem dd_Mo_feed_17 : decode bb_Mo_feed 17 = .ok (.iconst 1, 1) := by decide +kernel
theorem dd_Mo_feed_18 : decode bb_Mo_feed 18 = .ok (.invokevirtual 44, 3) := by decide +kernel
theorem dd_Mo_feed_21 : decode bb_Mo_feed 21 = .ok (.ifCond .eq 5, 3) := by decide +kernel
theorem dd_Mo_feed_24 : decode bb_Mo_feed 24 = .ok (.iconst 0, 1) := by decide +kernel
theorem dd_Mo_feed_25 : decode bb_Mo_feed 25 = .ok (.ireturn, 1) := by decide +kernel
theorem dd_Mo_feed_26 : decode bb_Mo_feed 26 = .ok (.aload_n 0, 1) := by decide +kernel
theorem dd_Mo_feed_27 : decode bb_Mo_feed 27 = .ok (.aload_n 0, 1) := by decide +kernel
theorem dd_Mo_feed_28 : decode bb_Mo_feed 28 = .ok (.getfield 64, 3) := by decide +kernel
theorem dd_Mo_feed_31 : decode bb_Mo_feed 31 = .ok (.iload_n 3, 1) := by decide +kernel
theorem dd_Mo_feed_32 : decode bb_Mo_feed 32 = .ok (.iadd, 1) := by decide +kernel
theorem dd_Mo_feed_33 : decode bb_Mo_feed 33 = .ok (.sipush 1000, 3) := by decide +kernel
theorem dd_Mo_feed_36 : decode bb_Mo_feed 36 = .ok (.if_icmp .le 7, 3) := by decide +kernel
theorem dd_Mo_feed_39 : decode bb_Mo_feed 39 = .ok (.iconst 1, 1) := by decide +kernel
theorem dd_Mo_feed_40 : decode bb_Mo_feed 40 = .ok (.goto 4, 3) := by decide +kernel
theorem dd_Mo_feed_43 : decode bb_Mo_feed 43 = .ok (.iconst 0, 1) := by decide +kernel
theorem dd_Mo_feed_44 : decode bb_Mo_feed 44 = .ok (.iconst 2, 1) := by decide +kernel
theorem dd_Mo_feed_45 : decode bb_Mo_feed 45 = .ok (.invokevirtual 44, 3) := by decide +kernel
theorem dd_Mo_feed_48 : decode bb_Mo_feed 48 = .ok (.ifCond .eq 5, 3) := by decide +kernel
theorem dd_Mo_feed_51 : decode bb_Mo_feed 51 = .ok (.iconst 0, 1) := by decide +kernel
theorem dd_Mo_feed_52 : decode bb_Mo_feed 52 = .ok (.ireturn, 1) := by decide +kernel
theorem dd_Mo_feed_53 : decode bb_Mo_feed 53 = .ok (.iconst 0, 1) := by decide +kernel
theorem dd_Mo_feed_54 : decode bb_Mo_feed 54 = .ok (.istore 4, 2) := by decide +kernel
theorem dd_Mo_feed_56 : decode bb_Mo_feed 56 = .ok (.iload 4, 2) := by decide +kernel
theorem dd_Mo_feed_58 : decode bb_Mo_feed 58 = .ok (.iload_n 3, 1) := by decide +kernel
theorem dd_Mo_feed_59 : decode bb_Mo_feed 59 = .ok (.if_icmp .ge 40, 3) := by decide +kernel
theorem dd_Mo_feed_62 : decode bb_Mo_feed 62 = .ok (.aload_n 0, 1) := by decide +kernel
theorem dd_Mo_feed_63 : decode bb_Mo_feed 63 = .ok (.getfield 30, 3) := by decide +kernel
theorem dd_Mo_feed_66 : decode bb_Mo_feed 66 = .ok (.aload_n 0, 1) := by decide +kernel
theorem dd_Mo_feed_67 : decode bb_Mo_feed 67 = .ok (.dup, 1) := by decide +kernel
theorem dd_Mo_feed_68 : decode bb_Mo_feed 68 = .ok (.getfield 64, 3) := by decide +kernel
theorem dd_Mo_feed_71 : decode bb_Mo_feed 71 = .ok (.dup_x1, 1) := by decide +kernel
theorem dd_Mo_feed_72 : decode bb_Mo_feed 72 = .ok (.iconst 1, 1) := by decide +kernel
theorem dd_Mo_feed_73 : decode bb_Mo_feed 73 = .ok (.iadd, 1) := by decide +kernel
theorem dd_Mo_feed_74 : decode bb_Mo_feed 74 = .ok (.putfield 64, 3) := by decide +kernel
theorem dd_Mo_feed_77 : decode bb_Mo_feed 77 = .ok (.lload_n 1, 1) := by decide +kernel
theorem dd_Mo_feed_78 : decode bb_Mo_feed 78 = .ok (.bipush 56, 2) := by decide +kernel
theorem dd_Mo_feed_80 : decode bb_Mo_feed 80 = .ok (.bipush 8, 2) := by decide +kernel
theorem dd_Mo_feed_82 : decode bb_Mo_feed 82 = .ok (.iload 4, 2) := by decide +kernel
theorem dd_Mo_feed_84 : decode bb_Mo_feed 84 = .ok (.imul, 1) := by decide +kernel
theorem dd_Mo_feed_85 : decode bb_Mo_feed 85 = .ok (.isub, 1) := by decide +kernel
theorem dd_Mo_feed_86 : decode bb_Mo_feed 86 = .ok (.lushr, 1) := by decide +kernel
theorem dd_Mo_feed_87 : decode bb_Mo_feed 87 = .ok (.l2i, 1) := by decide +kernel
theorem dd_Mo_feed_88 : decode bb_Mo_feed 88 = .ok (.sipush 255, 3) := by decide +kernel
theorem dd_Mo_feed_91 : decode bb_Mo_feed 91 = .ok (.iand, 1) := by decide +kernel
theorem dd_Mo_feed_92 : decode bb_Mo_feed 92 = .ok (.iastore, 1) := by decide +kernel
theorem dd_Mo_feed_93 : decode bb_Mo_feed 93 = .ok (.iinc 4 1, 3) := by decide +kernel
theorem dd_Mo_feed_96 : decode bb_Mo_feed 96 = .ok (.goto (-40), 3) := by decide +kernel
theorem dd_Mo_feed_99 : decode bb_Mo_feed 99 = .ok (.aload_n 0, 1) := by decide +kernel
theorem dd_Mo_feed_100 : decode bb_Mo_feed 100 = .ok (.getfield 64, 3) := by decide +kernel
theorem dd_Mo_feed_103 : decode bb_Mo_feed 103 = .ok (.ireturn, 1) := by decide +kernel
theorem dd_Mo_decode_0 : decode bb_Mo_decode 0 = .ok (.aload_n 0, 1) := by decide +kernel
theorem dd_Mo_decode_1 : decode bb_Mo_decode 1 = .ok (.aload_n 0, 1) := by decide +kernel
theorem dd_Mo_decode_2 : decode bb_Mo_decode 2 = .ok (.invokevirtual 67, 3) := by decide +kernel
theorem dd_Mo_decode_5 : decode bb_Mo_decode 5 = .ok (.putfield 33, 3) := by decide +kernel
theorem dd_Mo_decode_8 : decode bb_Mo_decode 8 = .ok (.aload_n 0, 1) := by decide +kernel
theorem dd_Mo_decode_9 : decode bb_Mo_decode 9 = .ok (.iconst 0, 1) := by decide +kernel
theorem dd_Mo_decode_10 : decode bb_Mo_decode 10 = .ok (.putfield 64, 3) := by decide +kernel
theorem dd_Mo_decode_13 : decode bb_Mo_decode 13 = .ok (.aload_n 0, 1) := by decide +kernel
theorem dd_Mo_decode_14 : decode bb_Mo_decode 14 = .ok (.aload_n 0, 1) := by decide +kernel
theorem dd_Mo_decode_15 : decode bb_Mo_decode 15 = .ok (.getfield 33, 3) := by decide +kernel
theorem dd_Mo_decode_18 : decode bb_Mo_decode 18 = .ok (.ifCond .lt 7, 3) := by decide +kernel
theorem dd_Mo_decode_21 : decode bb_Mo_decode 21 = .ok (.iconst 1, 1) := by decide +kernel
theorem dd_Mo_decode_22 : decode bb_Mo_decode 22 = .ok (.goto 4, 3) := by decide +kernel
theorem dd_Mo_decode_25 : decode bb_Mo_decode 25 = .ok (.iconst 0, 1) := by decide +kernel
theorem dd_Mo_decode_26 : decode bb_Mo_decode 26 = .ok (.iconst 1, 1) := by decide +kernel
theorem dd_Mo_decode_27 : decode bb_Mo_decode 27 = .ok (.invokevirtual 44, 3) := by decide +kernel
theorem dd_Mo_decode_30 : decode bb_Mo_decode 30 = .ok (.ifCond .eq 5, 3) := by decide +kernel
theorem dd_Mo_decode_33 : decode bb_Mo_decode 33 = .ok (.iconst 0, 1) := by decide +kernel
theorem dd_Mo_decode_34 : decode bb_Mo_decode 34 = .ok (.ireturn, 1) := by decide +kernel
theorem dd_Mo_decode_35 : decode bb_Mo_decode 35 = .ok (.iconst 0, 1) := by decide +kernel
theorem dd_Mo_decode_36 : decode bb_Mo_decode 36 = .ok (.istore_n 1, 1) := by decide +kernel
theorem dd_Mo_decode_37 : decode bb_Mo_decode 37 = .ok (.iconst 0, 1) := by decide +kernel
theorem dd_Mo_decode_38 : decode bb_Mo_decode 38 = .ok (.istore_n 2, 1) := by decide +kernel
theorem dd_Mo_decode_39 : decode bb_Mo_decode 39 = .ok (.iload_n 2, 1) := by decide +kernel
theorem dd_Mo_decode_40 : decode bb_Mo_decode 40 = .ok (.bipush 64, 2) := by decide +kernel
theorem dd_Mo_decode_42 : decode bb_Mo_decode 42 = .ok (.if_icmp .ge 45, 3) := by decide +kernel
theorem dd_Mo_decode_45 : decode bb_Mo_decode 45 = .ok (.aload_n 0, 1) := by decide +kernel
theorem dd_Mo_decode_46 : decode bb_Mo_decode 46 = .ok (.getfield 16, 3) := by decide +kernel
theorem dd_Mo_decode_49 : decode bb_Mo_decode 49 = .ok (.iload_n 2, 1) := by decide +kernel
theorem dd_Mo_decode_50 : decode bb_Mo_decode 50 = .ok (.aload_n 0, 1) := by decide +kernel
theorem dd_Mo_decode_51 : decode bb_Mo_decode 51 = .ok (.getfield 20, 3) := by decide +kernel
theorem dd_Mo_decode_54 : decode bb_Mo_decode 54 = .ok (.iload_n 2, 1) := by decide +kernel
theorem dd_Mo_decode_55 : decode bb_Mo_decode 55 = .ok (.baload, 1) := by decide +kernel
theorem dd_Mo_decode_56 : decode bb_Mo_decode 56 = .ok (.bastore, 1) := by decide +kernel
theorem dd_Mo_decode_57 : decode bb_Mo_decode 57 = .ok (.aload_n 0, 1) := by decide +kernel
theorem dd_Mo_decode_58 : decode bb_Mo_decode 58 = .ok (.getfield 20, 3) := by decide +kernel
theorem dd_Mo_decode_61 : decode bb_Mo_decode 61 = .ok (.iload_n 2, 1) := by decide +kernel
theorem dd_Mo_decode_62 : decode bb_Mo_decode 62 = .ok (.baload, 1) := by decide +kernel
theorem dd_Mo_decode_63 : decode bb_Mo_decode 63 = .ok (.ifCond .eq 18, 3) := by decide +kernel
theorem dd_Mo_decode_66 : decode bb_Mo_decode 66 = .ok (.aload_n 0, 1) := by decide +kernel
theorem dd_Mo_decode_67 : decode bb_Mo_decode 67 = .ok (.getfield 7, 3) := by decide +kernel
theorem dd_Mo_decode_70 : decode bb_Mo_decode 70 = .ok (.iload_n 2, 1) := by decide +kernel
theorem dd_Mo_decode_71 : decode bb_Mo_decode 71 = .ok (.aload_n 0, 1) := by decide +kernel
theorem dd_Mo_decode_72 : decode bb_Mo_decode 72 = .ok (.getfield 13, 3) := by decide +kernel
theorem dd_Mo_decode_75 : decode bb_Mo_decode 75 = .ok (.iload_n 2, 1) := by decide +kernel
theorem dd_Mo_decode_76 : decode bb_Mo_decode 76 = .ok (.laload, 1) := by decide +kernel
theorem dd_Mo_decode_77 : decode bb_Mo_decode 77 = .ok (.lastore, 1) := by decide +kernel
theorem dd_Mo_decode_78 : decode bb_Mo_decode 78 = .ok (.iinc 1 1, 3) := by decide +kernel
theorem dd_Mo_decode_81 : decode bb_Mo_decode 81 = .ok (.iinc 2 1, 3) := by decide +kernel
theorem dd_Mo_decode_84 : decode bb_Mo_decode 84 = .ok (.goto (-45), 3) := by decide +kernel
theorem dd_Mo_decode_87 : decode bb_Mo_decode 87 = .ok (.iload_n 1, 1) := by decide +kernel
theorem dd_Mo_decode_88 : decode bb_Mo_decode 88 = .ok (.ireturn, 1) := by decide +kernel
theorem dd_Mo_wrongAt_0 : decode bb_Mo_wrongAt 0 = .ok (.aload_n 0, 1) := by decide +kernel
theorem dd_Mo_wrongAt_1 : decode bb_Mo_wrongAt 1 = .ok (.getfield 64, 3) := by decide +kernel
theorem dd_Mo_wrongAt_4 : decode bb_Mo_wrongAt 4 = .ok (.bipush 8, 2) := by decide +kernel
theorem dd_Mo_wrongAt_6 : decode bb_Mo_wrongAt 6 = .ok (.if_icmp .ge 8, 3) := by decide +kernel
theorem dd_Mo_wrongAt_9 : decode bb_Mo_wrongAt 9 = .ok (.aload_n 0, 1) := by decide +kernel
theorem dd_Mo_wrongAt_10 : decode bb_Mo_wrongAt 10 = .ok (.getfield 64, 3) := by decide +kernel
theorem dd_Mo_wrongAt_13 : decode bb_Mo_wrongAt 13 = .ok (.ireturn, 1) := by decide +kernel
theorem dd_Mo_wrongAt_14 : decode bb_Mo_wrongAt 14 = .ok (.iconst 0, 1) := by decide +kernel
theorem dd_Mo_wrongAt_15 : decode bb_Mo_wrongAt 15 = .ok (.istore_n 1, 1) := by decide +kernel
theorem dd_Mo_wrongAt_16 : decode bb_Mo_wrongAt 16 = .ok (.bipush 8, 2) := by decide +kernel
theorem dd_Mo_wrongAt_18 : decode bb_Mo_wrongAt 18 = .ok (.istore_n 2, 1) := by decide +kernel
theorem dd_Mo_wrongAt_19 : decode bb_Mo_wrongAt 19 = .ok (.iconst 0, 1) := by decide +kernel
theorem dd_Mo_wrongAt_20 : decode bb_Mo_wrongAt 20 = .ok (.istore_n 3, 1) := by decide +kernel
theorem dd_Mo_wrongAt_21 : decode bb_Mo_wrongAt 21 = .ok (.iconst 0, 1) := by decide +kernel
theorem dd_Mo_wrongAt_22 : decode bb_Mo_wrongAt 22 = .ok (.istore 4, 2) := by decide +kernel
theorem dd_Mo_wrongAt_24 : decode bb_Mo_wrongAt 24 = .ok (.iload 4, 2) := by decide +kernel
theorem dd_Mo_wrongAt_26 : decode bb_Mo_wrongAt 26 = .ok (.bipush 64, 2) := by decide +kernel
theorem dd_Mo_wrongAt_28 : decode bb_Mo_wrongAt 28 = .ok (.if_icmp .ge 56, 3) := by decide +kernel
theorem dd_Mo_wrongAt_31 : decode bb_Mo_wrongAt 31 = .ok (.aload_n 0, 1) := by decide +kernel
theorem dd_Mo_wrongAt_32 : decode bb_Mo_wrongAt 32 = .ok (.getfield 20, 3) := by decide +kernel
theorem dd_Mo_wrongAt_35 : decode bb_Mo_wrongAt 35 = .ok (.iload 4, 2) := by decide +kernel
theorem dd_Mo_wrongAt_37 : decode bb_Mo_wrongAt 37 = .ok (.aload_n 0, 1) := by decide +kernel
theorem dd_Mo_wrongAt_38 : decode bb_Mo_wrongAt 38 = .ok (.getfield 30, 3) := by decide +kernel
theorem dd_Mo_wrongAt_41 : decode bb_Mo_wrongAt 41 = .ok (.iload 4, 2) := by decide +kernel
theorem dd_Mo_wrongAt_43 : decode bb_Mo_wrongAt 43 = .ok (.bipush 8, 2) := by decide +kernel
theorem dd_Mo_wrongAt_45 : decode bb_Mo_wrongAt 45 = .ok (.idiv, 1) := by decide +kernel
theorem dd_Mo_wrongAt_46 : decode bb_Mo_wrongAt 46 = .ok (.iaload, 1) := by decide +kernel
theorem dd_Mo_wrongAt_47 : decode bb_Mo_wrongAt 47 = .ok (.iload 4, 2) := by decide +kernel
theorem dd_Mo_wrongAt_49 : decode bb_Mo_wrongAt 49 = .ok (.bipush 8, 2) := by decide +kernel
theorem dd_Mo_wrongAt_51 : decode bb_Mo_wrongAt 51 = .ok (.irem, 1) := by decide +kernel
theorem dd_Mo_wrongAt_52 : decode bb_Mo_wrongAt 52 = .ok (.ishr, 1) := by decide +kernel
theorem dd_Mo_wrongAt_53 : decode bb_Mo_wrongAt 53 = .ok (.iconst 1, 1) := by decide +kernel
theorem dd_Mo_wrongAt_54 : decode bb_Mo_wrongAt 54 = .ok (.iand, 1) := by decide +kernel
theorem dd_Mo_wrongAt_55 : decode bb_Mo_wrongAt 55 = .ok (.iconst 1, 1) := by decide +kernel
theorem dd_Mo_wrongAt_56 : decode bb_Mo_wrongAt 56 = .ok (.if_icmp .ne 7, 3) := by decide +kernel
theorem dd_Mo_wrongAt_59 : decode bb_Mo_wrongAt 59 = .ok (.iconst 1, 1) := by decide +kernel
theorem dd_Mo_wrongAt_60 : decode bb_Mo_wrongAt 60 = .ok (.goto 4, 3) := by decide +kernel
theorem dd_Mo_wrongAt_63 : decode bb_Mo_wrongAt 63 = .ok (.iconst 0, 1) := by decide +kernel
theorem dd_Mo_wrongAt_64 : decode bb_Mo_wrongAt 64 = .ok (.bastore, 1) := by decide +kernel
theorem dd_Mo_wrongAt_65 : decode bb_Mo_wrongAt 65 = .ok (.aload_n 0, 1) := by decide +kernel
theorem dd_Mo_wrongAt_66 : decode bb_Mo_wrongAt 66 = .ok (.getfield 20, 3) := by decide +kernel
theorem dd_Mo_wrongAt_69 : decode bb_Mo_wrongAt 69 = .ok (.iload 4, 2) := by decide +kernel
theorem dd_Mo_wrongAt_71 : decode bb_Mo_wrongAt 71 = .ok (.baload, 1) := by decide +kernel
theorem dd_Mo_wrongAt_72 : decode bb_Mo_wrongAt 72 = .ok (.ifCond .eq 6, 3) := by decide +kernel
theorem dd_Mo_wrongAt_75 : decode bb_Mo_wrongAt 75 = .ok (.iinc 1 1, 3) := by decide +kernel
theorem dd_Mo_wrongAt_78 : decode bb_Mo_wrongAt 78 = .ok (.iinc 4 1, 3) := by decide +kernel
theorem dd_Mo_wrongAt_81 : decode bb_Mo_wrongAt 81 = .ok (.goto (-57), 3) := by decide +kernel
theorem dd_Mo_wrongAt_84 : decode bb_Mo_wrongAt 84 = .ok (.lconst 0, 1) := by decide +kernel
theorem dd_Mo_wrongAt_85 : decode bb_Mo_wrongAt 85 = .ok (.lstore 4, 2) := by decide +kernel
theorem dd_Mo_wrongAt_87 : decode bb_Mo_wrongAt 87 = .ok (.iconst 1, 1) := by decide +kernel
theorem dd_Mo_wrongAt_88 : decode bb_Mo_wrongAt 88 = .ok (.istore 6, 2) := by decide +kernel
theorem dd_Mo_wrongAt_90 : decode bb_Mo_wrongAt 90 = .ok (.iload_n 1, 1) := by decide +kernel
theorem dd_Mo_wrongAt_91 : decode bb_Mo_wrongAt 91 = .ok (.ifCond .le 209, 3) := by decide +kernel
theorem dd_Mo_wrongAt_94 : decode bb_Mo_wrongAt 94 = .ok (.iload_n 2, 1) := by decide +kernel
theorem dd_Mo_wrongAt_95 : decode bb_Mo_wrongAt 95 = .ok (.aload_n 0, 1) := by decide +kernel
theorem dd_Mo_wrongAt_96 : decode bb_Mo_wrongAt 96 = .ok (.getfield 64, 3) := by decide +kernel
theorem dd_Mo_wrongAt_99 : decode bb_Mo_wrongAt 99 = .ok (.if_icmp .eq 23, 3) := by decide +kernel
theorem dd_Mo_wrongAt_102 : decode bb_Mo_wrongAt 102 = .ok (.aload_n 0, 1) := by decide +kernel
theorem dd_Mo_wrongAt_103 : decode bb_Mo_wrongAt 103 = .ok (.getfield 30, 3) := by decide +kernel
theorem dd_Mo_wrongAt_106 : decode bb_Mo_wrongAt 106 = .ok (.iload_n 2, 1) := by decide +kernel
theorem dd_Mo_wrongAt_107 : decode bb_Mo_wrongAt 107 = .ok (.iaload, 1) := by decide +kernel
theorem dd_Mo_wrongAt_108 : decode bb_Mo_wrongAt 108 = .ok (.iconst 1, 1) := by decide +kernel
theorem dd_Mo_wrongAt_109 : decode bb_Mo_wrongAt 109 = .ok (.if_icmp .lt 13, 3) := by decide +kernel
theorem dd_Mo_wrongAt_112 : decode bb_Mo_wrongAt 112 = .ok (.aload_n 0, 1) := by decide +kernel
theorem dd_Mo_wrongAt_113 : decode bb_Mo_wrongAt 113 = .ok (.getfield 30, 3) := by decide +kernel
theorem dd_Mo_wrongAt_116 : decode bb_Mo_wrongAt 116 = .ok (.iload_n 2, 1) := by decide +kernel
theorem dd_Mo_wrongAt_117 : decode bb_Mo_wrongAt 117 = .ok (.iaload, 1) := by decide +kernel
theorem dd_Mo_wrongAt_118 : decode bb_Mo_wrongAt 118 = .ok (.iload_n 1, 1) := by decide +kernel
theorem dd_Mo_wrongAt_119 : decode bb_Mo_wrongAt 119 = .ok (.if_icmp .le 5, 3) := by decide +kernel
theorem dd_Mo_wrongAt_122 : decode bb_Mo_wrongAt 122 = .ok (.iload_n 2, 1) := by decide +kernel
theorem dd_Mo_wrongAt_123 : decode bb_Mo_wrongAt 123 = .ok (.ireturn, 1) := by decide +kernel
theorem dd_Mo_wrongAt_124 : decode bb_Mo_wrongAt 124 = .ok (.aload_n 0, 1) := by decide +kernel
theorem dd_Mo_wrongAt_125 : decode bb_Mo_wrongAt 125 = .ok (.getfield 30, 3) := by decide +kernel
theorem dd_Mo_wrongAt_128 : decode bb_Mo_wrongAt 128 = .ok (.iload_n 2, 1) := by decide +kernel
theorem dd_Mo_wrongAt_129 : decode bb_Mo_wrongAt 129 = .ok (.iinc 2 1, 3) := by decide +kernel
theorem dd_Mo_wrongAt_132 : decode bb_Mo_wrongAt 132 = .ok (.iaload, 1) := by decide +kernel
theorem dd_Mo_wrongAt_133 : decode bb_Mo_wrongAt 133 = .ok (.istore 7, 2) := by decide +kernel
theorem dd_Mo_wrongAt_135 : decode bb_Mo_wrongAt 135 = .ok (.iconst 0, 1) := by decide +kernel
theorem dd_Mo_wrongAt_136 : decode bb_Mo_wrongAt 136 = .ok (.istore 8, 2) := by decide +kernel
theorem dd_Mo_wrongAt_138 : decode bb_Mo_wrongAt 138 = .ok (.lconst 0, 1) := by decide +kernel
theorem dd_Mo_wrongAt_139 : decode bb_Mo_wrongAt 139 = .ok (.lstore 9, 2) := by decide +kernel
theorem dd_Mo_wrongAt_141 : decode bb_Mo_wrongAt 141 = .ok (.iload_n 2, 1) := by decide +kernel
theorem dd_Mo_wrongAt_142 : decode bb_Mo_wrongAt 142 = .ok (.aload_n 0, 1) := by decide +kernel
theorem dd_Mo_wrongAt_143 : decode bb_Mo_wrongAt 143 = .ok (.getfield 64, 3) := by decide +kernel
theorem dd_Mo_wrongAt_146 : decode bb_Mo_wrongAt 146 = .ok (.if_icmp .ne 5, 3) := by decide +kernel
theorem dd_Mo_wrongAt_149 : decode bb_Mo_wrongAt 149 = .ok (.iload_n 2, 1) := by decide +kernel
theorem dd_Mo_wrongAt_150 : decode bb_Mo_wrongAt 150 = .ok (.ireturn, 1) := by decide +kernel
theorem dd_Mo_wrongAt_151 : decode bb_Mo_wrongAt 151 = .ok (.aload_n 0, 1) := by decide +kernel
theorem dd_Mo_wrongAt_152 : decode bb_Mo_wrongAt 152 = .ok (.getfield 30, 3) := by decide +kernel
theorem dd_Mo_wrongAt_155 : decode bb_Mo_wrongAt 155 = .ok (.iload_n 2, 1) := by decide +kernel
theorem dd_Mo_wrongAt_156 : decode bb_Mo_wrongAt 156 = .ok (.iaload, 1) := by decide +kernel
theorem dd_Mo_wrongAt_157 : decode bb_Mo_wrongAt 157 = .ok (.istore 11, 2) := by decide +kernel
theorem dd_Mo_wrongAt_159 : decode bb_Mo_wrongAt 159 = .ok (.iload 8, 2) := by decide +kernel
theorem dd_Mo_wrongAt_161 : decode bb_Mo_wrongAt 161 = .ok (.bipush 9, 2) := by decide +kernel
theorem dd_Mo_wrongAt_163 : decode bb_Mo_wrongAt 163 = .ok (.if_icmp .ne 11, 3) := by decide +kernel
theorem dd_Mo_wrongAt_166 : decode bb_Mo_wrongAt 166 = .ok (.iload 11, 2) := by decide +kernel
theorem dd_Mo_wrongAt_168 : decode bb_Mo_wrongAt 168 = .ok (.iconst 1, 1) := by decide +kernel
theorem dd_Mo_wrongAt_169 : decode bb_Mo_wrongAt 169 = .ok (.if_icmp .eq 5, 3) := by decide +kernel
theorem dd_Mo_wrongAt_172 : decode bb_Mo_wrongAt 172 = .ok (.iload_n 2, 1) := by decide +kernel
theorem dd_Mo_wrongAt_173 : decode bb_Mo_wrongAt 173 = .ok (.ireturn, 1) := by decide +kernel
theorem dd_Mo_wrongAt_174 : decode bb_Mo_wrongAt 174 = .ok (.lload 9, 2) := by decide +kernel
theorem dd_Mo_wrongAt_176 : decode bb_Mo_wrongAt 176 = .ok (.iload 11, 2) := by decide +kernel
theorem dd_Mo_wrongAt_178 : decode bb_Mo_wrongAt 178 = .ok (.bipush 127, 2) := by decide +kernel
theorem dd_Mo_wrongAt_180 : decode bb_Mo_wrongAt 180 = .ok (.iand, 1) := by decide +kernel
theorem dd_Mo_wrongAt_181 : decode bb_Mo_wrongAt 181 = .ok (.i2l, 1) := by decide +kernel
theorem dd_Mo_wrongAt_182 : decode bb_Mo_wrongAt 182 = .ok (.bipush 7, 2) := by decide +kernel
theorem dd_Mo_wrongAt_184 : decode bb_Mo_wrongAt 184 = .ok (.iload 8, 2) := by decide +kernel
theorem dd_Mo_wrongAt_186 : decode bb_Mo_wrongAt 186 = .ok (.imul, 1) := by decide +kernel
theorem dd_Mo_wrongAt_187 : decode bb_Mo_wrongAt 187 = .ok (.lshl, 1) := by decide +kernel
theorem dd_Mo_wrongAt_188 : decode bb_Mo_wrongAt 188 = .ok (.lor, 1) := by decide +kernel
theorem dd_Mo_wrongAt_189 : decode bb_Mo_wrongAt 189 = .ok (.lstore 9, 2) := by decide +kernel
theorem dd_Mo_wrongAt_191 : decode bb_Mo_wrongAt 191 = .ok (.iinc 8 1, 3) := by decide +kernel
theorem dd_Mo_wrongAt_194 : decode bb_Mo_wrongAt 194 = .ok (.iload 11, 2) := by decide +kernel
theorem dd_Mo_wrongAt_196 : decode bb_Mo_wrongAt 196 = .ok (.sipush 128, 3) := by decide +kernel
theorem dd_Mo_wrongAt_199 : decode bb_Mo_wrongAt 199 = .ok (.if_icmp .lt 9, 3) := by decide +kernel
theorem dd_Mo_wrongAt_202 : decode bb_Mo_wrongAt 202 = .ok (.iinc 2 1, 3) := by decide +kernel
theorem dd_Mo_wrongAt_205 : decode bb_Mo_wrongAt 205 = .ok (.goto (-64), 3) := by decide +kernel
theorem dd_Mo_wrongAt_208 : decode bb_Mo_wrongAt 208 = .ok (.iload 11, 2) := by decide +kernel
theorem dd_Mo_wrongAt_210 : decode bb_Mo_wrongAt 210 = .ok (.ifCond .ne 16, 3) := by decide +kernel
theorem dd_Mo_wrongAt_213 : decode bb_Mo_wrongAt 213 = .ok (.iload 8, 2) := by decide +kernel
theorem dd_Mo_wrongAt_215 : decode bb_Mo_wrongAt 215 = .ok (.iconst 1, 1) := by decide +kernel
theorem dd_Mo_wrongAt_216 : decode bb_Mo_wrongAt 216 = .ok (.if_icmp .gt 8, 3) := by decide +kernel
theorem dd_Mo_wrongAt_219 : decode bb_Mo_wrongAt 219 = .ok (.iload 6, 2) := by decide +kernel
theorem dd_Mo_wrongAt_221 : decode bb_Mo_wrongAt 221 = .ok (.ifCond .ne 5, 3) := by decide +kernel
theorem dd_Mo_wrongAt_224 : decode bb_Mo_wrongAt 224 = .ok (.iload_n 2, 1) := by decide +kernel
theorem dd_Mo_wrongAt_225 : decode bb_Mo_wrongAt 225 = .ok (.ireturn, 1) := by decide +kernel
theorem dd_Mo_wrongAt_226 : decode bb_Mo_wrongAt 226 = .ok (.iinc 2 1, 3) := by decide +kernel
theorem dd_Mo_wrongAt_229 : decode bb_Mo_wrongAt 229 = .ok (.goto 3, 3) := by decide +kernel
theorem dd_Mo_wrongAt_232 : decode bb_Mo_wrongAt 232 = .ok (.lload 4, 2) := by decide +kernel
theorem dd_Mo_wrongAt_234 : decode bb_Mo_wrongAt 234 = .ok (.lload 9, 2) := by decide +kernel
theorem dd_Mo_wrongAt_236 : decode bb_Mo_wrongAt 236 = .ok (.iconst 1, 1) := by decide +kernel
theorem dd_Mo_wrongAt_237 : decode bb_Mo_wrongAt 237 = .ok (.lushr, 1) := by decide +kernel
theorem dd_Mo_wrongAt_238 : decode bb_Mo_wrongAt 238 = .ok (.lload 9, 2) := by decide +kernel
theorem dd_Mo_wrongAt_240 : decode bb_Mo_wrongAt 240 = .ok (.lconst 1, 1) := by decide +kernel
theorem dd_Mo_wrongAt_241 : decode bb_Mo_wrongAt 241 = .ok (.land, 1) := by decide +kernel
theorem dd_Mo_wrongAt_242 : decode bb_Mo_wrongAt 242 = .ok (.lneg, 1) := by decide +kernel
theorem dd_Mo_wrongAt_243 : decode bb_Mo_wrongAt 243 = .ok (.lxor, 1) := by decide +kernel
theorem dd_Mo_wrongAt_244 : decode bb_Mo_wrongAt 244 = .ok (.ladd, 1) := by decide +kernel
theorem dd_Mo_wrongAt_245 : decode bb_Mo_wrongAt 245 = .ok (.lstore 4, 2) := by decide +kernel
theorem dd_Mo_wrongAt_247 : decode bb_Mo_wrongAt 247 = .ok (.iconst 0, 1) := by decide +kernel
theorem dd_Mo_wrongAt_248 : decode bb_Mo_wrongAt 248 = .ok (.istore 6, 2) := by decide +kernel
theorem dd_Mo_wrongAt_250 : decode bb_Mo_wrongAt 250 = .ok (.iload_n 1, 1) := by decide +kernel
theorem dd_Mo_wrongAt_251 : decode bb_Mo_wrongAt 251 = .ok (.iload 7, 2) := by decide +kernel
theorem dd_Mo_wrongAt_253 : decode bb_Mo_wrongAt 253 = .ok (.isub, 1) := by decide +kernel
theorem dd_Mo_wrongAt_254 : decode bb_Mo_wrongAt 254 = .ok (.istore_n 1, 1) := by decide +kernel
theorem dd_Mo_wrongAt_255 : decode bb_Mo_wrongAt 255 = .ok (.iconst 0, 1) := by decide +kernel
theorem dd_Mo_wrongAt_256 : decode bb_Mo_wrongAt 256 = .ok (.istore 11, 2) := by decide +kernel
theorem dd_Mo_wrongAt_258 : decode bb_Mo_wrongAt 258 = .ok (.iload 11, 2) := by decide +kernel
theorem dd_Mo_wrongAt_260 : decode bb_Mo_wrongAt 260 = .ok (.iload 7, 2) := by decide +kernel
theorem dd_Mo_wrongAt_262 : decode bb_Mo_wrongAt 262 = .ok (.if_icmp .ge 35, 3) := by decide +kernel
theorem dd_Mo_wrongAt_265 : decode bb_Mo_wrongAt 265 = .ok (.aload_n 0, 1) := by decide +kernel
theorem dd_Mo_wrongAt_266 : decode bb_Mo_wrongAt 266 = .ok (.getfield 20, 3) := by decide +kernel
theorem dd_Mo_wrongAt_269 : decode bb_Mo_wrongAt 269 = .ok (.iload_n 3, 1) := by decide +kernel
theorem dd_Mo_wrongAt_270 : decode bb_Mo_wrongAt 270 = .ok (.baload, 1) := by decide +kernel
theorem dd_Mo_wrongAt_271 : decode bb_Mo_wrongAt 271 = .ok (.ifCond .ne 9, 3) := by decide +kernel
theorem dd_Mo_wrongAt_274 : decode bb_Mo_wrongAt 274 = .ok (.iinc 3 1, 3) := by decide +kernel
theorem dd_Mo_wrongAt_277 : decode bb_Mo_wrongAt 277 = .ok (.goto (-12), 3) := by decide +kernel
theorem dd_Mo_wrongAt_280 : decode bb_Mo_wrongAt 280 = .ok (.aload_n 0, 1) := by decide +kernel
theorem dd_Mo_wrongAt_281 : decode bb_Mo_wrongAt 281 = .ok (.getfield 13, 3) := by decide +kernel
theorem dd_Mo_wrongAt_284 : decode bb_Mo_wrongAt 284 = .ok (.iload_n 3, 1) := by decide +kernel
theorem dd_Mo_wrongAt_285 : decode bb_Mo_wrongAt 285 = .ok (.iinc 3 1, 3) := by decide +kernel
theorem dd_Mo_wrongAt_288 : decode bb_Mo_wrongAt 288 = .ok (.lload 4, 2) := by decide +kernel
theorem dd_Mo_wrongAt_290 : decode bb_Mo_wrongAt 290 = .ok (.lastore, 1) := by decide +kernel
theorem dd_Mo_wrongAt_291 : decode bb_Mo_wrongAt 291 = .ok (.iinc 11 1, 3) := by decide +kernel
theorem dd_Mo_wrongAt_294 : decode bb_Mo_wrongAt 294 = .ok (.goto (-36), 3) := by decide +kernel
theorem dd_Mo_wrongAt_297 : decode bb_Mo_wrongAt 297 = .ok (.goto (-207), 3) := by decide +kernel
theorem dd_Mo_wrongAt_300 : decode bb_Mo_wrongAt 300 = .ok (.iload_n 2, 1) := by decide +kernel
theorem dd_Mo_wrongAt_301 : decode bb_Mo_wrongAt 301 = .ok (.aload_n 0, 1) := by decide +kernel
theorem dd_Mo_wrongAt_302 : decode bb_Mo_wrongAt 302 = .ok (.getfield 64, 3) := by decide +kernel
theorem dd_Mo_wrongAt_305 : decode bb_Mo_wrongAt 305 = .ok (.if_icmp .ge 7, 3) := by decide +kernel
theorem dd_Mo_wrongAt_308 : decode bb_Mo_wrongAt 308 = .ok (.iload_n 2, 1) := by decide +kernel
theorem dd_Mo_wrongAt_309 : decode bb_Mo_wrongAt 309 = .ok (.goto 4, 3) := by decide +kernel
theorem dd_Mo_wrongAt_312 : decode bb_Mo_wrongAt 312 = .ok (.iconst (-1), 1) := by decide +kernel
theorem dd_Mo_wrongAt_313 : decode bb_Mo_wrongAt 313 = .ok (.ireturn, 1) := by decide +kernel
theorem dd_Mo_wrong_0 : decode bb_Mo_wrong 0 = .ok (.aload_n 0, 1) := by decide +kernel
theorem dd_Mo_wrong_1 : decode bb_Mo_wrong 1 = .ok (.iconst 0, 1) := by decide +kernel
theorem dd_Mo_wrong_2 : decode bb_Mo_wrong 2 = .ok (.putfield 37, 3) := by decide +kernel
theorem dd_Mo_wrong_5 : decode bb_Mo_wrong 5 = .ok (.aload_n 0, 1) := by decide +kernel
theorem dd_Mo_wrong_6 : decode bb_Mo_wrong 6 = .ok (.getfield 33, 3) := by decide +kernel
theorem dd_Mo_wrong_9 : decode bb_Mo_wrong 9 = .ok (.ireturn, 1) := by decide +kernel
theorem dd_Mo_count_0 : decode bb_Mo_count 0 = .ok (.aload_n 0, 1) := by decide +kernel
theorem dd_Mo_count_1 : decode bb_Mo_count 1 = .ok (.iload_n 1, 1) := by decide +kernel
theorem dd_Mo_count_2 : decode bb_Mo_count 2 = .ok (.ifCond .lt 8, 3) := by decide +kernel
theorem dd_Mo_count_5 : decode bb_Mo_count 5 = .ok (.iload_n 1, 1) := by decide +kernel
theorem dd_Mo_count_6 : decode bb_Mo_count 6 = .ok (.iconst 4, 1) := by decide +kernel
theorem dd_Mo_count_7 : decode bb_Mo_count 7 = .ok (.if_icmp .le 7, 3) := by decide +kernel
theorem dd_Mo_count_10 : decode bb_Mo_count 10 = .ok (.iconst 1, 1) := by decide +kernel
theorem dd_Mo_count_11 : decode bb_Mo_count 11 = .ok (.goto 4, 3) := by decide +kernel
theorem dd_Mo_count_14 : decode bb_Mo_count 14 = .ok (.iconst 0, 1) := by decide +kernel
theorem dd_Mo_count_15 : decode bb_Mo_count 15 = .ok (.iconst 1, 1) := by decide +kernel
theorem dd_Mo_count_16 : decode bb_Mo_count 16 = .ok (.invokevirtual 44, 3) := by decide +kernel
theorem dd_Mo_count_19 : decode bb_Mo_count 19 = .ok (.ifCond .eq 5, 3) := by decide +kernel
theorem dd_Mo_count_22 : decode bb_Mo_count 22 = .ok (.iconst 0, 1) := by decide +kernel
theorem dd_Mo_count_23 : decode bb_Mo_count 23 = .ok (.ireturn, 1) := by decide +kernel
theorem dd_Mo_count_24 : decode bb_Mo_count 24 = .ok (.iconst 0, 1) := by decide +kernel
theorem dd_Mo_count_25 : decode bb_Mo_count 25 = .ok (.istore_n 2, 1) := by decide +kernel
theorem dd_Mo_count_26 : decode bb_Mo_count 26 = .ok (.aload_n 0, 1) := by decide +kernel
theorem dd_Mo_count_27 : decode bb_Mo_count 27 = .ok (.invokevirtual 57, 3) := by decide +kernel
theorem dd_Mo_count_30 : decode bb_Mo_count 30 = .ok (.istore_n 3, 1) := by decide +kernel
theorem dd_Mo_count_31 : decode bb_Mo_count 31 = .ok (.iconst 0, 1) := by decide +kernel
theorem dd_Mo_count_32 : decode bb_Mo_count 32 = .ok (.istore 4, 2) := by decide +kernel
theorem dd_Mo_count_34 : decode bb_Mo_count 34 = .ok (.iload 4, 2) := by decide +kernel
theorem dd_Mo_count_36 : decode bb_Mo_count 36 = .ok (.bipush 64, 2) := by decide +kernel
theorem dd_Mo_count_38 : decode bb_Mo_count 38 = .ok (.if_icmp .ge 22, 3) := by decide +kernel
theorem dd_Mo_count_41 : decode bb_Mo_count 41 = .ok (.aload_n 0, 1) := by decide +kernel
theorem dd_Mo_count_42 : decode bb_Mo_count 42 = .ok (.getfield 16, 3) := by decide +kernel
theorem dd_Mo_count_45 : decode bb_Mo_count 45 = .ok (.iload 4, 2) := by decide +kernel
theorem dd_Mo_count_47 : decode bb_Mo_count 47 = .ok (.baload, 1) := by decide +kernel
theorem dd_Mo_count_48 : decode bb_Mo_count 48 = .ok (.ifCond .eq 6, 3) := by decide +kernel
theorem dd_Mo_count_51 : decode bb_Mo_count 51 = .ok (.iinc 2 1, 3) := by decide +kernel
theorem dd_Mo_count_54 : decode bb_Mo_count 54 = .ok (.iinc 4 1, 3) := by decide +kernel
theorem dd_Mo_count_57 : decode bb_Mo_count 57 = .ok (.goto (-23), 3) := by decide +kernel
theorem dd_Mo_count_60 : decode bb_Mo_count 60 = .ok (.iload_n 1, 1) := by decide +kernel
theorem dd_Mo_count_61 : decode bb_Mo_count 61 = .ok (.ifCond .ne 7, 3) := by decide +kernel
theorem dd_Mo_count_64 : decode bb_Mo_count 64 = .ok (.iload_n 2, 1) := by decide +kernel
theorem dd_Mo_count_65 : decode bb_Mo_count 65 = .ok (.goto 40, 3) := by decide +kernel
theorem dd_Mo_count_68 : decode bb_Mo_count 68 = .ok (.iload_n 1, 1) := by decide +kernel
theorem dd_Mo_count_69 : decode bb_Mo_count 69 = .ok (.iconst 1, 1) := by decide +kernel
theorem dd_Mo_count_70 : decode bb_Mo_count 70 = .ok (.if_icmp .ne 7, 3) := by decide +kernel
theorem dd_Mo_count_73 : decode bb_Mo_count 73 = .ok (.iload_n 3, 1) := by decide +kernel
theorem dd_Mo_count_74 : decode bb_Mo_count 74 = .ok (.goto 31, 3) := by decide +kernel
theorem dd_Mo_count_77 : decode bb_Mo_count 77 = .ok (.iload_n 1, 1) := by decide +kernel
theorem dd_Mo_count_78 : decode bb_Mo_count 78 = .ok (.iconst 2, 1) := by decide +kernel
theorem dd_Mo_count_79 : decode bb_Mo_count 79 = .ok (.if_icmp .ne 10, 3) := by decide +kernel
theorem dd_Mo_count_82 : decode bb_Mo_count 82 = .ok (.aload_n 0, 1) := by decide +kernel
theorem dd_Mo_count_83 : decode bb_Mo_count 83 = .ok (.getfield 64, 3) := by decide +kernel
theorem dd_Mo_count_86 : decode bb_Mo_count 86 = .ok (.goto 19, 3) := by decide +kernel
theorem dd_Mo_count_89 : decode bb_Mo_count 89 = .ok (.iload_n 1, 1) := by decide +kernel
theorem dd_Mo_count_90 : decode bb_Mo_count 90 = .ok (.iconst 3, 1) := by decide +kernel
theorem dd_Mo_count_91 : decode bb_Mo_count 91 = .ok (.if_icmp .ne 10, 3) := by decide +kernel
theorem dd_Mo_count_94 : decode bb_Mo_count 94 = .ok (.aload_n 0, 1) := by decide +kernel
theorem dd_Mo_count_95 : decode bb_Mo_count 95 = .ok (.getfield 61, 3) := by decide +kernel
theorem dd_Mo_count_98 : decode bb_Mo_count 98 = .ok (.goto 7, 3) := by decide +kernel
theorem dd_Mo_count_101 : decode bb_Mo_count 101 = .ok (.aload_n 0, 1) := by decide +kernel
theorem dd_Mo_count_102 : decode bb_Mo_count 102 = .ok (.getfield 48, 3) := by decide +kernel
theorem dd_Mo_count_105 : decode bb_Mo_count 105 = .ok (.ireturn, 1) := by decide +kernel
