/-! instructions -/
theorem dd_Ch_init_0 : decode bb_Ch_init 0 = .ok (.aload_n 0, 1) := by decide +kernel
theorem dd_Ch_init_1 : decode bb_Ch_init 1 = .ok (.invokespecial 3, 3) := by decide +kernel
theorem dd_Ch_init_4 : decode bb_Ch_init 4 = .ok (.aload_n 0, 1) := by decide +kernel
theorem dd_Ch_init_5 : decode bb_Ch_init 5 = .ok (.new 9, 3) := by decide +kernel
theorem dd_Ch_init_8 : decode bb_Ch_init 8 = .ok (.dup, 1) := by decide +kernel
theorem dd_Ch_init_9 : decode bb_Ch_init 9 = .ok (.invokespecial 11, 3) := by decide +kernel
theorem dd_Ch_init_12 : decode bb_Ch_init 12 = .ok (.putfield 12, 3) := by decide +kernel
theorem dd_Ch_init_15 : decode bb_Ch_init 15 = .ok (.aload_n 0, 1) := by decide +kernel
theorem dd_Ch_init_16 : decode bb_Ch_init 16 = .ok (.new 9, 3) := by decide +kernel
theorem dd_Ch_init_19 : decode bb_Ch_init 19 = .ok (.dup, 1) := by decide +kernel
theorem dd_Ch_init_20 : decode bb_Ch_init 20 = .ok (.invokespecial 11, 3) := by decide +kernel
theorem dd_Ch_init_23 : decode bb_Ch_init 23 = .ok (.putfield 16, 3) := by decide +kernel
theorem dd_Ch_init_26 : decode bb_Ch_init 26 = .ok (.aload_n 0, 1) := by decide +kernel
theorem dd_Ch_init_27 : decode bb_Ch_init 27 = .ok (.new 19, 3) := by decide +kernel
theorem dd_Ch_init_30 : decode bb_Ch_init 30 = .ok (.dup, 1) := by decide +kernel
theorem dd_Ch_init_31 : decode bb_Ch_init 31 = .ok (.invokespecial 21, 3) := by decide +kernel
theorem dd_Ch_init_34 : decode bb_Ch_init 34 = .ok (.putfield 22, 3) := by decide +kernel
theorem dd_Ch_init_37 : decode bb_Ch_init 37 = .ok (.aload_n 0, 1) := by decide +kernel
theorem dd_Ch_init_38 : decode bb_Ch_init 38 = .ok (.new 26, 3) := by decide +kernel
theorem dd_Ch_init_41 : decode bb_Ch_init 41 = .ok (.dup, 1) := by decide +kernel
theorem dd_Ch_init_42 : decode bb_Ch_init 42 = .ok (.sipush 712, 3) := by decide +kernel
theorem dd_Ch_init_45 : decode bb_Ch_init 45 = .ok (.invokespecial 28, 3) := by decide +kernel
theorem dd_Ch_init_48 : decode bb_Ch_init 48 = .ok (.putfield 31, 3) := by decide +kernel
theorem dd_Ch_init_51 : decode bb_Ch_init 51 = .ok (.aload_n 0, 1) := by decide +kernel
theorem dd_Ch_init_52 : decode bb_Ch_init 52 = .ok (.new 26, 3) := by decide +kernel
theorem dd_Ch_init_55 : decode bb_Ch_init 55 = .ok (.dup, 1) := by decide +kernel
theorem dd_Ch_init_56 : decode bb_Ch_init 56 = .ok (.sipush 1000, 3) := by decide +kernel
theorem dd_Ch_init_59 : decode bb_Ch_init 59 = .ok (.invokespecial 28, 3) := by decide +kernel
theorem dd_Ch_init_62 : decode bb_Ch_init 62 = .ok (.putfield 35, 3) := by decide +kernel
theorem dd_Ch_init_65 : decode bb_Ch_init 65 = .ok (.aload_n 0, 1) := by decide +kernel
theorem dd_Ch_init_66 : decode bb_Ch_init 66 = .ok (.new 38, 3) := by decide +kernel
theorem dd_Ch_init_69 : decode bb_Ch_init 69 = .ok (.dup, 1) := by decide +kernel
theorem dd_Ch_init_70 : decode bb_Ch_init 70 = .ok (.invokespecial 40, 3) := by decide +kernel
theorem dd_Ch_init_73 : decode bb_Ch_init 73 = .ok (.putfield 41, 3) := by decide +kernel
theorem dd_Ch_init_76 : decode bb_Ch_init 76 = .ok (.aload_n 0, 1) := by decide +kernel
theorem dd_Ch_init_77 : decode bb_Ch_init 77 = .ok (.iconst (-1), 1) := by decide +kernel
theorem dd_Ch_init_78 : decode bb_Ch_init 78 = .ok (.putfield 45, 3) := by decide +kernel
theorem dd_Ch_init_81 : decode bb_Ch_init 81 = .ok (.return_, 1) := by decide +kernel
theorem dd_Ch_encode_0 : decode bb_Ch_encode 0 = .ok (.aload_n 0, 1) := by decide +kernel
theorem dd_Ch_encode_1 : decode bb_Ch_encode 1 = .ok (.getfield 22, 3) := by decide +kernel
theorem dd_Ch_encode_4 : decode bb_Ch_encode 4 = .ok (.aload_n 0, 1) := by decide +kernel
theorem dd_Ch_encode_5 : decode bb_Ch_encode 5 = .ok (.getfield 12, 3) := by decide +kernel
theorem dd_Ch_encode_8 : decode bb_Ch_encode 8 = .ok (.invokevirtual 74, 3) := by decide +kernel
theorem dd_Ch_encode_11 : decode bb_Ch_encode 11 = .ok (.aload_n 0, 1) := by decide +kernel
theorem dd_Ch_encode_12 : decode bb_Ch_encode 12 = .ok (.getfield 31, 3) := by decide +kernel
theorem dd_Ch_encode_15 : decode bb_Ch_encode 15 = .ok (.invokevirtual 78, 3) := by decide +kernel
theorem dd_Ch_encode_18 : decode bb_Ch_encode 18 = .ok (.iconst 0, 1) := by decide +kernel
theorem dd_Ch_encode_19 : decode bb_Ch_encode 19 = .ok (.istore_n 1, 1) := by decide +kernel
theorem dd_Ch_encode_20 : decode bb_Ch_encode 20 = .ok (.iload_n 1, 1) := by decide +kernel
theorem dd_Ch_encode_21 : decode bb_Ch_encode 21 = .ok (.bipush 8, 2) := by decide +kernel
theorem dd_Ch_encode_23 : decode bb_Ch_encode 23 = .ok (.if_icmp .ge 29, 3) := by decide +kernel
theorem dd_Ch_encode_26 : decode bb_Ch_encode 26 = .ok (.aload_n 0, 1) := by decide +kernel
theorem dd_Ch_encode_27 : decode bb_Ch_encode 27 = .ok (.getfield 31, 3) := by decide +kernel
theorem dd_Ch_encode_30 : decode bb_Ch_encode 30 = .ok (.aload_n 0, 1) := by decide +kernel
theorem dd_Ch_encode_31 : decode bb_Ch_encode 31 = .ok (.getfield 12, 3) := by decide +kernel
theorem dd_Ch_encode_34 : decode bb_Ch_encode 34 = .ok (.invokevirtual 80, 3) := by decide +kernel
theorem dd_Ch_encode_37 : decode bb_Ch_encode 37 = .ok (.bipush 8, 2) := by decide +kernel
theorem dd_Ch_encode_39 : decode bb_Ch_encode 39 = .ok (.iload_n 1, 1) := by decide +kernel
theorem dd_Ch_encode_40 : decode bb_Ch_encode 40 = .ok (.imul, 1) := by decide +kernel
theorem dd_Ch_encode_41 : decode bb_Ch_encode 41 = .ok (.lushr, 1) := by decide +kernel
theorem dd_Ch_encode_42 : decode bb_Ch_encode 42 = .ok (.l2i, 1) := by decide +kernel
theorem dd_Ch_encode_43 : decode bb_Ch_encode 43 = .ok (.invokevirtual 84, 3) := by decide +kernel
theorem dd_Ch_encode_46 : decode bb_Ch_encode 46 = .ok (.iinc 1 1, 3) := by decide +kernel
theorem dd_Ch_encode_49 : decode bb_Ch_encode 49 = .ok (.goto (-29), 3) := by decide +kernel
theorem dd_Ch_encode_52 : decode bb_Ch_encode 52 = .ok (.iconst 0, 1) := by decide +kernel
theorem dd_Ch_encode_53 : decode bb_Ch_encode 53 = .ok (.istore_n 1, 1) := by decide +kernel
theorem dd_Ch_encode_54 : decode bb_Ch_encode 54 = .ok (.iload_n 1, 1) := by decide +kernel
theorem dd_Ch_encode_55 : decode bb_Ch_encode 55 = .ok (.aload_n 0, 1) := by decide +kernel
theorem dd_Ch_encode_56 : decode bb_Ch_encode 56 = .ok (.getfield 22, 3) := by decide +kernel
theorem dd_Ch_encode_59 : decode bb_Ch_encode 59 = .ok (.invokevirtual 87, 3) := by decide +kernel
theorem dd_Ch_encode_62 : decode bb_Ch_encode 62 = .ok (.if_icmp .ge 39, 3) := by decide +kernel
theorem dd_Ch_encode_65 : decode bb_Ch_encode 65 = .ok (.aload_n 0, 1) := by decide +kernel
theorem dd_Ch_encode_66 : decode bb_Ch_encode 66 = .ok (.getfield 31, 3) := by decide +kernel
theorem dd_Ch_encode_69 : decode bb_Ch_encode 69 = .ok (.aload_n 0, 1) := by decide +kernel
theorem dd_Ch_encode_70 : decode bb_Ch_encode 70 = .ok (.getfield 22, 3) := by decide +kernel
theorem dd_Ch_encode_73 : decode bb_Ch_encode 73 = .ok (.iload_n 1, 1) := by decide +kernel
theorem dd_Ch_encode_74 : decode bb_Ch_encode 74 = .ok (.invokevirtual 91, 3) := by decide +kernel
theorem dd_Ch_encode_77 : decode bb_Ch_encode 77 = .ok (.invokevirtual 84, 3) := by decide +kernel
theorem dd_Ch_encode_80 : decode bb_Ch_encode 80 = .ok (.aload_n 0, 1) := by decide +kernel
theorem dd_Ch_encode_81 : decode bb_Ch_encode 81 = .ok (.getfield 31, 3) := by decide +kernel
theorem dd_Ch_encode_84 : decode bb_Ch_encode 84 = .ok (.aload_n 0, 1) := by decide +kernel
theorem dd_Ch_encode_85 : decode bb_Ch_encode 85 = .ok (.getfield 22, 3) := by decide +kernel
theorem dd_Ch_encode_88 : decode bb_Ch_encode 88 = .ok (.iload_n 1, 1) := by decide +kernel
theorem dd_Ch_encode_89 : decode bb_Ch_encode 89 = .ok (.invokevirtual 95, 3) := by decide +kernel
theorem dd_Ch_encode_92 : decode bb_Ch_encode 92 = .ok (.invokestatic 98, 3) := by decide +kernel
theorem dd_Ch_encode_95 : decode bb_Ch_encode 95 = .ok (.iinc 1 1, 3) := by decide +kernel
theorem dd_Ch_encode_98 : decode bb_Ch_encode 98 = .ok (.goto (-44), 3) := by decide +kernel
theorem dd_Ch_encode_101 : decode bb_Ch_encode 101 = .ok (.aload_n 0, 1) := by decide +kernel
theorem dd_Ch_encode_102 : decode bb_Ch_encode 102 = .ok (.getfield 31, 3) := by decide +kernel
theorem dd_Ch_encode_105 : decode bb_Ch_encode 105 = .ok (.invokevirtual 102, 3) := by decide +kernel
theorem dd_Ch_encode_108 : decode bb_Ch_encode 108 = .ok (.ireturn, 1) := by decide +kernel
theorem dd_Ch_addNumber_0 : decode bb_Ch_addNumber 0 = .ok (.lload_n 1, 1) := by decide +kernel
theorem dd_Ch_addNumber_1 : decode bb_Ch_addNumber 1 = .ok (.invokestatic 137, 3) := by decide +kernel
theorem dd_Ch_addNumber_4 : decode bb_Ch_addNumber 4 = .ok (.iconst 1, 1) := by decide +kernel
theorem dd_Ch_addNumber_5 : decode bb_Ch_addNumber 5 = .ok (.isub, 1) := by decide +kernel
theorem dd_Ch_addNumber_6 : decode bb_Ch_addNumber 6 = .ok (.istore_n 3, 1) := by decide +kernel
theorem dd_Ch_addNumber_7 : decode bb_Ch_addNumber 7 = .ok (.iconst 0, 1) := by decide +kernel
theorem dd_Ch_addNumber_8 : decode bb_Ch_addNumber 8 = .ok (.istore 4, 2) := by decide +kernel
theorem dd_Ch_addNumber_10 : decode bb_Ch_addNumber 10 = .ok (.iload 4, 2) := by decide +kernel
theorem dd_Ch_addNumber_12 : decode bb_Ch_addNumber 12 = .ok (.iload_n 3, 1) := by decide +kernel
theorem dd_Ch_addNumber_13 : decode bb_Ch_addNumber 13 = .ok (.if_icmp .ge 25, 3) := by decide +kernel
theorem dd_Ch_addNumber_16 : decode bb_Ch_addNumber 16 = .ok (.aload_n 0, 1) := by decide +kernel
theorem dd_Ch_addNumber_17 : decode bb_Ch_addNumber 17 = .ok (.lload_n 1, 1) := by decide +kernel
theorem dd_Ch_addNumber_18 : decode bb_Ch_addNumber 18 = .ok (.bipush 7, 2) := by decide +kernel
theorem dd_Ch_addNumber_20 : decode bb_Ch_addNumber 20 = .ok (.iload 4, 2) := by decide +kernel
theorem dd_Ch_addNumber_22 : decode bb_Ch_addNumber 22 = .ok (.imul, 1) := by decide +kernel
theorem dd_Ch_addNumber_23 : decode bb_Ch_addNumber 23 = .ok (.lushr, 1) := by decide +kernel
theorem dd_Ch_addNumber_24 : decode bb_Ch_addNumber 24 = .ok (.l2i, 1) := by decide +kernel
theorem dd_Ch_addNumber_25 : decode bb_Ch_addNumber 25 = .ok (.sipush 128, 3) := by decide +kernel
theorem dd_Ch_addNumber_28 : decode bb_Ch_addNumber 28 = .ok (.ior, 1) := by decide +kernel
theorem dd_Ch_addNumber_29 : decode bb_Ch_addNumber 29 = .ok (.invokevirtual 84, 3) := by decide +kernel
theorem dd_Ch_addNumber_32 : decode bb_Ch_addNumber 32 = .ok (.iinc 4 1, 3) := by decide +kernel
theorem dd_Ch_addNumber_35 : decode bb_Ch_addNumber 35 = .ok (.goto (-25), 3) := by decide +kernel
theorem dd_Ch_addNumber_38 : decode bb_Ch_addNumber 38 = .ok (.aload_n 0, 1) := by decide +kernel
theorem dd_Ch_addNumber_39 : decode bb_Ch_addNumber 39 = .ok (.lload_n 1, 1) := by decide +kernel
theorem dd_Ch_addNumber_40 : decode bb_Ch_addNumber 40 = .ok (.bipush 7, 2) := by decide +kernel
theorem dd_Ch_addNumber_42 : decode bb_Ch_addNumber 42 = .ok (.iload_n 3, 1) := by decide +kernel
theorem dd_Ch_addNumber_43 : decode bb_Ch_addNumber 43 = .ok (.imul, 1) := by decide +kernel
theorem dd_Ch_addNumber_44 : decode bb_Ch_addNumber 44 = .ok (.lushr, 1) := by decide +kernel
theorem dd_Ch_addNumber_45 : decode bb_Ch_addNumber 45 = .ok (.l2i, 1) := by decide +kernel
theorem dd_Ch_addNumber_46 : decode bb_Ch_addNumber 46 = .ok (.invokevirtual 84, 3) := by decide +kernel
theorem dd_Ch_addNumber_49 : decode bb_Ch_addNumber 49 = .ok (.return_, 1) := by decide +kernel
theorem dd_Ch_numberOctets_0 : decode bb_Ch_numberOctets 0 = .ok (.iconst 1, 1) := by decide +kernel
theorem dd_Ch_numberOctets_1 : decode bb_Ch_numberOctets 1 = .ok (.istore_n 2, 1) := by decide +kernel
theorem dd_Ch_numberOctets_2 : decode bb_Ch_numberOctets 2 = .ok (.bipush 7, 2) := by decide +kernel
theorem dd_Ch_numberOctets_4 : decode bb_Ch_numberOctets 4 = .ok (.istore_n 3, 1) := by decide +kernel
theorem dd_Ch_numberOctets_5 : decode bb_Ch_numberOctets 5 = .ok (.iload_n 3, 1) := by decide +kernel
theorem dd_Ch_numberOctets_6 : decode bb_Ch_numberOctets 6 = .ok (.bipush 63, 2) := by decide +kernel
theorem dd_Ch_numberOctets_8 : decode bb_Ch_numberOctets 8 = .ok (.if_icmp .gt 20, 3) := by decide +kernel
theorem dd_Ch_numberOctets_11 : decode bb_Ch_numberOctets 11 = .ok (.lload_n 0, 1) := by decide +kernel
theorem dd_Ch_numberOctets_12 : decode bb_Ch_numberOctets 12 = .ok (.iload_n 3, 1) := by decide +kernel
theorem dd_Ch_numberOctets_13 : decode bb_Ch_numberOctets 13 = .ok (.lushr, 1) := by decide +kernel
theorem dd_Ch_numberOctets_14 : decode bb_Ch_numberOctets 14 = .ok (.lconst 0, 1) := by decide +kernel
theorem dd_Ch_numberOctets_15 : decode bb_Ch_numberOctets 15 = .ok (.lcmp, 1) := by decide +kernel
theorem dd_Ch_numberOctets_16 : decode bb_Ch_numberOctets 16 = .ok (.ifCond .eq 6, 3) := by decide +kernel
theorem dd_Ch_numberOctets_19 : decode bb_Ch_numberOctets 19 = .ok (.iinc 2 1, 3) := by decide +kernel
theorem dd_Ch_numberOctets_22 : decode bb_Ch_numberOctets 22 = .ok (.iinc 3 7, 3) := by decide +kernel
theorem dd_Ch_numberOctets_25 : decode bb_Ch_numberOctets 25 = .ok (.goto (-20), 3) := by decide +kernel
theorem dd_Ch_numberOctets_28 : decode bb_Ch_numberOctets 28 = .ok (.iload_n 2, 1) := by decide +kernel
theorem dd_Ch_numberOctets_29 : decode bb_Ch_numberOctets 29 = .ok (.ireturn, 1) := by decide +kernel
theorem dd_Ch_wrong_0 : decode bb_Ch_wrong 0 = .ok (.aload_n 0, 1) := by decide +kernel
theorem dd_Ch_wrong_1 : decode bb_Ch_wrong 1 = .ok (.getfield 45, 3) := by decide +kernel
theorem dd_Ch_wrong_4 : decode bb_Ch_wrong 4 = .ok (.ireturn, 1) := by decide +kernel
theorem dd_Ch_put_0 : decode bb_Ch_put 0 = .ok (.iload_n 1, 1) := by decide +kernel
theorem dd_Ch_put_1 : decode bb_Ch_put 1 = .ok (.invokestatic 49, 3) := by decide +kernel
theorem dd_Ch_put_4 : decode bb_Ch_put 4 = .ok (.aload_n 0, 1) := by decide +kernel
theorem dd_Ch_put_5 : decode bb_Ch_put 5 = .ok (.getfield 12, 3) := by decide +kernel
theorem dd_Ch_put_8 : decode bb_Ch_put 8 = .ok (.iload_n 1, 1) := by decide +kernel
theorem dd_Ch_put_9 : decode bb_Ch_put 9 = .ok (.lload_n 2, 1) := by decide +kernel
theorem dd_Ch_put_10 : decode bb_Ch_put 10 = .ok (.invokevirtual 52, 3) := by decide +kernel
theorem dd_Ch_put_13 : decode bb_Ch_put 13 = .ok (.return_, 1) := by decide +kernel
theorem dd_Ch_needCell_0 : decode bb_Ch_needCell 0 = .ok (.iload_n 0, 1) := by decide +kernel
theorem dd_Ch_needCell_1 : decode bb_Ch_needCell 1 = .ok (.ifCond .lt 9, 3) := by decide +kernel
theorem dd_Ch_needCell_4 : decode bb_Ch_needCell 4 = .ok (.iload_n 0, 1) := by decide +kernel
theorem dd_Ch_needCell_5 : decode bb_Ch_needCell 5 = .ok (.bipush 64, 2) := by decide +kernel
theorem dd_Ch_needCell_7 : decode bb_Ch_needCell 7 = .ok (.if_icmp .lt 13, 3) := by decide +kernel
theorem dd_Ch_needCell_10 : decode bb_Ch_needCell 10 = .ok (.new 105, 3) := by decide +kernel
theorem dd_Ch_needCell_13 : decode bb_Ch_needCell 13 = .ok (.dup, 1) := by decide +kernel
theorem dd_Ch_needCell_14 : decode bb_Ch_needCell 14 = .ok (.ldc 135, 2) := by decide +kernel
theorem dd_Ch_needCell_16 : decode bb_Ch_needCell 16 = .ok (.invokespecial 109, 3) := by decide +kernel
theorem dd_Ch_needCell_19 : decode bb_Ch_needCell 19 = .ok (.athrow, 1) := by decide +kernel
theorem dd_Ch_needCell_20 : decode bb_Ch_needCell 20 = .ok (.return_, 1) := by decide +kernel
theorem dd_Ch_erase_0 : decode bb_Ch_erase 0 = .ok (.iload_n 1, 1) := by decide +kernel
theorem dd_Ch_erase_1 : decode bb_Ch_erase 1 = .ok (.invokestatic 49, 3) := by decide +kernel
theorem dd_Ch_erase_4 : decode bb_Ch_erase 4 = .ok (.iload_n 2, 1) := by decide +kernel
theorem dd_Ch_erase_5 : decode bb_Ch_erase 5 = .ok (.invokestatic 49, 3) := by decide +kernel
theorem dd_Ch_erase_8 : decode bb_Ch_erase 8 = .ok (.iload_n 1, 1) := by decide +kernel
theorem dd_Ch_erase_9 : decode bb_Ch_erase 9 = .ok (.istore_n 3, 1) := by decide +kernel
theorem dd_Ch_erase_10 : decode bb_Ch_erase 10 = .ok (.iload_n 3, 1) := by decide +kernel
theorem dd_Ch_erase_11 : decode bb_Ch_erase 11 = .ok (.iload_n 2, 1) := by decide +kernel
theorem dd_Ch_erase_12 : decode bb_Ch_erase 12 = .ok (.if_icmp .gt 17, 3) := by decide +kernel
theorem dd_Ch_erase_15 : decode bb_Ch_erase 15 = .ok (.aload_n 0, 1) := by decide +kernel
theorem dd_Ch_erase_16 : decode bb_Ch_erase 16 = .ok (.getfield 12, 3) := by decide +kernel
theorem dd_Ch_erase_19 : decode bb_Ch_erase 19 = .ok (.iload_n 3, 1) := by decide +kernel
theorem dd_Ch_erase_20 : decode bb_Ch_erase 20 = .ok (.invokevirtual 56, 3) := by decide +kernel
theorem dd_Ch_erase_23 : decode bb_Ch_erase 23 = .ok (.iinc 3 1, 3) := by decide +kernel
theorem dd_Ch_erase_26 : decode bb_Ch_erase 26 = .ok (.goto (-16), 3) := by decide +kernel
theorem dd_Ch_erase_29 : decode bb_Ch_erase 29 = .ok (.return_, 1) := by decide +kernel
theorem dd_Ch_get_0 : decode bb_Ch_get 0 = .ok (.iload_n 1, 1) := by decide +kernel
theorem dd_Ch_get_1 : decode bb_Ch_get 1 = .ok (.invokestatic 49, 3) := by decide +kernel
theorem dd_Ch_get_4 : decode bb_Ch_get 4 = .ok (.aload_n 0, 1) := by decide +kernel
theorem dd_Ch_get_5 : decode bb_Ch_get 5 = .ok (.getfield 12, 3) := by decide +kernel
theorem dd_Ch_get_8 : decode bb_Ch_get 8 = .ok (.iload_n 1, 1) := by decide +kernel
theorem dd_Ch_get_9 : decode bb_Ch_get 9 = .ok (.invokevirtual 59, 3) := by decide +kernel
theorem dd_Ch_get_12 : decode bb_Ch_get 12 = .ok (.ifCond .ne 13, 3) := by decide +kernel
theorem dd_Ch_get_15 : decode bb_Ch_get 15 = .ok (.new 63, 3) := by decide +kernel
theorem dd_Ch_get_18 : decode bb_Ch_get 18 = .ok (.dup, 1) := by decide +kernel
theorem dd_Ch_get_19 : decode bb_Ch_get 19 = .ok (.ldc 65, 2) := by decide +kernel
theorem dd_Ch_get_21 : decode bb_Ch_get 21 = .ok (.invokespecial 67, 3) := by decide +kernel
theorem dd_Ch_get_24 : decode bb_Ch_get 24 = .ok (.athrow, 1) := by decide +kernel
theorem dd_Ch_get_25 : decode bb_Ch_get 25 = .ok (.aload_n 0, 1) := by decide +kernel
theorem dd_Ch_get_26 : decode bb_Ch_get 26 = .ok (.getfield 12, 3) := by decide +kernel
theorem dd_Ch_get_29 : decode bb_Ch_get 29 = .ok (.iload_n 1, 1) := by decide +kernel
theorem dd_Ch_get_30 : decode bb_Ch_get 30 = .ok (.invokevirtual 70, 3) := by decide +kernel
theorem dd_Ch_get_33 : decode bb_Ch_get 33 = .ok (.lreturn, 1) := by decide +kernel
theorem dd_Ch_sum_0 : decode bb_Ch_sum 0 = .ok (.iload_n 1, 1) := by decide +kernel
theorem dd_Ch_sum_1 : decode bb_Ch_sum 1 = .ok (.invokestatic 49, 3) := by decide +kernel
theorem dd_Ch_sum_4 : decode bb_Ch_sum 4 = .ok (.iload_n 2, 1) := by decide +kernel
theorem dd_Ch_sum_5 : decode bb_Ch_sum 5 = .ok (.invokestatic 49, 3) := by decide +kernel
theorem dd_Ch_sum_8 : decode bb_Ch_sum 8 = .ok (.lconst 0, 1) := by decide +kernel
theorem dd_Ch_sum_9 : decode bb_Ch_sum 9 = .ok (.lstore_n 3, 1) := by decide +kernel
theorem dd_Ch_sum_10 : decode bb_Ch_sum 10 = .ok (.iload_n 1, 1) := by decide +kernel
theorem dd_Ch_sum_11 : decode bb_Ch_sum 11 = .ok (.istore 5, 2) := by decide +kernel
theorem dd_Ch_sum_13 : decode bb_Ch_sum 13 = .ok (.iload 5, 2) := by decide +kernel
theorem dd_Ch_sum_15 : decode bb_Ch_sum 15 = .ok (.iload_n 2, 1) := by decide +kernel
theorem dd_Ch_sum_16 : decode bb_Ch_sum 16 = .ok (.if_icmp .gt 33, 3) := by decide +kernel
theorem dd_Ch_sum_19 : decode bb_Ch_sum 19 = .ok (.aload_n 0, 1) := by decide +kernel
theorem dd_Ch_sum_20 : decode bb_Ch_sum 20 = .ok (.getfield 12, 3) := by decide +kernel
theorem dd_Ch_sum_23 : decode bb_Ch_sum 23 = .ok (.iload 5, 2) := by decide +kernel
theorem dd_Ch_sum_25 : decode bb_Ch_sum 25 = .ok (.invokevirtual 59, 3) := by decide +kernel
theorem dd_Ch_sum_28 : decode bb_Ch_sum 28 = .ok (.ifCond .eq 15, 3) := by decide +kernel
theorem dd_Ch_sum_31 : decode bb_Ch_sum 31 = .ok (.lload_n 3, 1) := by decide +kernel
theorem dd_Ch_sum_32 : decode bb_Ch_sum 32 = .ok (.aload_n 0, 1) := by decide +kernel
theorem dd_Ch_sum_33 : decode bb_Ch_sum 33 = .ok (.getfield 12, 3) := by decide +kernel
theorem dd_Ch_sum_36 : decode bb_Ch_sum 36 = .ok (.iload 5, 2) := by decide +kernel
theorem dd_Ch_sum_38 : decode bb_Ch_sum 38 = .ok (.invokevirtual 70, 3) := by decide +kernel
theorem dd_Ch_sum_41 : decode bb_Ch_sum 41 = .ok (.ladd, 1) := by decide +kernel
theorem dd_Ch_sum_42 : decode bb_Ch_sum 42 = .ok (.lstore_n 3, 1) := by decide +kernel
theorem dd_Ch_sum_43 : decode bb_Ch_sum 43 = .ok (.iinc 5 1, 3) := by decide +kernel
theorem dd_Ch_sum_46 : decode bb_Ch_sum 46 = .ok (.goto (-33), 3) := by decide +kernel
theorem dd_Ch_sum_49 : decode bb_Ch_sum 49 = .ok (.lload_n 3, 1) := by decide +kernel
theorem dd_Ch_sum_50 : decode bb_Ch_sum 50 = .ok (.lreturn, 1) := by decide +kernel
theorem dd_Ch_code_0 : decode bb_Ch_code 0 = .ok (.aload_n 0, 1) := by decide +kernel
theorem dd_Ch_code_1 : decode bb_Ch_code 1 = .ok (.getfield 31, 3) := by decide +kernel
theorem dd_Ch_code_4 : decode bb_Ch_code 4 = .ok (.invokevirtual 102, 3) := by decide +kernel
theorem dd_Ch_code_7 : decode bb_Ch_code 7 = .ok (.bipush 8, 2) := by decide +kernel
theorem dd_Ch_code_9 : decode bb_Ch_code 9 = .ok (.iadd, 1) := by decide +kernel
theorem dd_Ch_code_10 : decode bb_Ch_code 10 = .ok (.iconst 1, 1) := by decide +kernel
theorem dd_Ch_code_11 : decode bb_Ch_code 11 = .ok (.isub, 1) := by decide +kernel
theorem dd_Ch_code_12 : decode bb_Ch_code 12 = .ok (.bipush 8, 2) := by decide +kernel
theorem dd_Ch_code_14 : decode bb_Ch_code 14 = .ok (.idiv, 1) := by decide +kernel
theorem dd_Ch_code_15 : decode bb_Ch_code 15 = .ok (.istore_n 2, 1) := by decide +kernel
theorem dd_Ch_code_16 : decode bb_Ch_code 16 = .ok (.iload_n 1, 1) := by decide +kernel
theorem dd_Ch_code_17 : decode bb_Ch_code 17 = .ok (.ifCond .lt 8, 3) := by decide +kernel
theorem dd_Ch_code_20 : decode bb_Ch_code 20 = .ok (.iload_n 1, 1) := by decide +kernel
theorem dd_Ch_code_21 : decode bb_Ch_code 21 = .ok (.iload_n 2, 1) := by decide +kernel
theorem dd_Ch_code_22 : decode bb_Ch_code 22 = .ok (.if_icmp .lt 13, 3) := by decide +kernel
theorem dd_Ch_code_25 : decode bb_Ch_code 25 = .ok (.new 105, 3) := by decide +kernel
theorem dd_Ch_code_28 : decode bb_Ch_code 28 = .ok (.dup, 1) := by decide +kernel
theorem dd_Ch_code_29 : decode bb_Ch_code 29 = .ok (.ldc 107, 2) := by decide +kernel
theorem dd_Ch_code_31 : decode bb_Ch_code 31 = .ok (.invokespecial 109, 3) := by decide +kernel
theorem dd_Ch_code_34 : decode bb_Ch_code 34 = .ok (.athrow, 1) := by decide +kernel
theorem dd_Ch_code_35 : decode bb_Ch_code 35 = .ok (.lconst 0, 1) := by decide +kernel
theorem dd_Ch_code_36 : decode bb_Ch_code 36 = .ok (.lstore_n 3, 1) := by decide +kernel
theorem dd_Ch_code_37 : decode bb_Ch_code 37 = .ok (.iconst 0, 1) := by decide +kernel
theorem dd_Ch_code_38 : decode bb_Ch_code 38 = .ok (.istore 5, 2) := by decide +kernel
theorem dd_Ch_code_40 : decode bb_Ch_code 40 = .ok (.iload 5, 2) := by decide +kernel
theorem dd_Ch_code_42 : decode bb_Ch_code 42 = .ok (.bipush 8, 2) := by decide +kernel
theorem dd_Ch_code_44 : decode bb_Ch_code 44 = .ok (.if_icmp .ge 30, 3) := by decide +kernel
theorem dd_Ch_code_47 : decode bb_Ch_code 47 = .ok (.lload_n 3, 1) := by decide +kernel
theorem dd_Ch_code_48 : decode bb_Ch_code 48 = .ok (.bipush 8, 2) := by decide +kernel
theorem dd_Ch_code_50 : decode bb_Ch_code 50 = .ok (.lshl, 1) := by decide +kernel
theorem dd_Ch_code_51 : decode bb_Ch_code 51 = .ok (.aload_n 0, 1) := by decide +kernel
theorem dd_Ch_code_52 : decode bb_Ch_code 52 = .ok (.getfield 31, 3) := by decide +kernel
theorem dd_Ch_code_55 : decode bb_Ch_code 55 = .ok (.bipush 8, 2) := by decide +kernel
theorem dd_Ch_code_57 : decode bb_Ch_code 57 = .ok (.iload_n 1, 1) := by decide +kernel
theorem dd_Ch_code_58 : decode bb_Ch_code 58 = .ok (.imul, 1) := by decide +kernel
theorem dd_Ch_code_59 : decode bb_Ch_code 59 = .ok (.iload 5, 2) := by decide +kernel
theorem dd_Ch_code_61 : decode bb_Ch_code 61 = .ok (.iadd, 1) := by decide +kernel
theorem dd_Ch_code_62 : decode bb_Ch_code 62 = .ok (.invokevirtual 110, 3) := by decide +kernel
theorem dd_Ch_code_65 : decode bb_Ch_code 65 = .ok (.i2l, 1) := by decide +kernel
theorem dd_Ch_code_66 : decode bb_Ch_code 66 = .ok (.lor, 1) := by decide +kernel
theorem dd_Ch_code_67 : decode bb_Ch_code 67 = .ok (.lstore_n 3, 1) := by decide +kernel
theorem dd_Ch_code_68 : decode bb_Ch_code 68 = .ok (.iinc 5 1, 3) := by decide +kernel
theorem dd_Ch_code_71 : decode bb_Ch_code 71 = .ok (.goto (-31), 3) := by decide +kernel
theorem dd_Ch_code_74 : decode bb_Ch_code 74 = .ok (.lload_n 3, 1) := by decide +kernel
theorem dd_Ch_code_75 : decode bb_Ch_code 75 = .ok (.lreturn, 1) := by decide +kernel
theorem dd_Ch_feed_0 : decode bb_Ch_feed 0 = .ok (.iload_n 3, 1) := by decide +kernel
theorem dd_Ch_feed_1 : decode bb_Ch_feed 1 = .ok (.iconst 1, 1) := by decide +kernel
theorem dd_Ch_feed_2 : decode bb_Ch_feed 2 = .ok (.if_icmp .lt 9, 3) := by decide +kernel
theorem dd_Ch_feed_5 : decode bb_Ch_feed 5 = .ok (.iload_n 3, 1) := by decide +kernel
theorem dd_Ch_feed_6 : decode bb_Ch_feed 6 = .ok (.bipush 8, 2) := by decide +kernel
theorem dd_Ch_feed_8 : decode bb_Ch_feed 8 = .ok (.if_icmp .le 13, 3) := by decide +kernel
theorem dd_Ch_feed_11 : decode bb_Ch_feed 11 = .ok (.new 113, 3) := by decide +kernel
theorem dd_Ch_feed_14 : decode bb_Ch_feed 14 = .ok (.dup, 1) := by decide +kernel
theorem dd_Ch_feed_15 : decode bb_Ch_feed 15 = .ok (.ldc 115, 2) := by decide +kernel
theorem dd_Ch_feed_17 : decode bb_Ch_feed 17 = .ok (.invokespecial 117, 3) := by decide +kernel
theorem dd_Ch_feed_20 : decode bb_Ch_feed 20 = .ok (.athrow, 1) := by decide +kernel
theorem dd_Ch_feed_21 : decode bb_Ch_feed 21 = .ok (.aload_n 0, 1) := by decide +kernel
theorem dd_Ch_feed_22 : decode bb_Ch_feed 22 = .ok (.getfield 35, 3) := by decide +kernel
theorem dd_Ch_feed_25 : decode bb_Ch_feed 25 = .ok (.invokevirtual 102, 3) := by decide +kernel
theorem dd_Ch_feed_28 : decode bb_Ch_feed 28 = .ok (.iload_n 3, 1) := by decide +kernel
theorem dd_Ch_feed_29 : decode bb_Ch_feed 29 = .ok (.iadd, 1) := by decide +kernel
theorem dd_Ch_feed_30 : decode bb_Ch_feed 30 = .ok (.sipush 1000, 3) := by decide +kernel
theorem dd_Ch_feed_33 : decode bb_Ch_feed 33 = .ok (.if_icmp .le 13, 3) := by decide +kernel
theorem dd_Ch_feed_36 : decode bb_Ch_feed 36 = .ok (.new 105, 3) := by decide +kernel
theorem dd_Ch_feed_39 : decode bb_Ch_feed 39 = .ok (.dup, 1) := by decide +kernel
theorem dd_Ch_feed_40 : decode bb_Ch_feed 40 = .ok (.ldc 118, 2) := by decide +kernel
theorem dd_Ch_feed_42 : decode bb_Ch_feed 42 = .ok (.invokespecial 109, 3) := by decide +kernel
theorem dd_Ch_feed_45 : decode bb_Ch_feed 45 = .ok (.athrow, 1) := by decide +kernel
theorem dd_Ch_feed_46 : decode bb_Ch_feed 46 = .ok (.iconst 0, 1) := by decide +kernel
theorem dd_Ch_feed_47 : decode bb_Ch_feed 47 = .ok (.istore 4, 2) := by decide +kernel
theorem dd_Ch_feed_49 : decode bb_Ch_feed 49 = .ok (.iload 4, 2) := by decide +kernel
theorem dd_Ch_feed_51 : decode bb_Ch_feed 51 = .ok (.iload_n 3, 1) := by decide +kernel
theorem dd_Ch_feed_52 : decode bb_Ch_feed 52 = .ok (.if_icmp .ge 27, 3) := by decide +kernel
theorem dd_Ch_feed_55 : decode bb_Ch_feed 55 = .ok (.aload_n 0, 1) := by decide +kernel
theorem dd_Ch_feed_56 : decode bb_Ch_feed 56 = .ok (.getfield 35, 3) := by decide +kernel
theorem dd_Ch_feed_59 : decode bb_Ch_feed 59 = .ok (.lload_n 1, 1) := by decide +kernel
theorem dd_Ch_feed_60 : decode bb_Ch_feed 60 = .ok (.bipush 56, 2) := by decide +kernel
theorem dd_Ch_feed_62 : decode bb_Ch_feed 62 = .ok (.bipush 8, 2) := by decide +kernel
theorem dd_Ch_feed_64 : decode bb_Ch_feed 64 = .ok (.iload 4, 2) := by decide +kernel
theorem dd_Ch_feed_66 : decode bb_Ch_feed 66 = .ok (.imul, 1) := by decide +kernel
theorem dd_Ch_feed_67 : decode bb_Ch_feed 67 = .ok (.isub, 1) := by decide +kernel
theorem dd_Ch_feed_68 : decode bb_Ch_feed 68 = .ok (.lushr, 1) := by decide +kernel
theorem dd_Ch_feed_69 : decode bb_Ch_feed 69 = .ok (.l2i, 1) := by decide +kernel
theorem dd_Ch_feed_70 : decode bb_Ch_feed 70 = .ok (.invokevirtual 84, 3) := by decide +kernel
theorem dd_Ch_feed_73 : decode bb_Ch_feed 73 = .ok (.iinc 4 1, 3) := by decide +kernel
theorem dd_Ch_feed_76 : decode bb_Ch_feed 76 = .ok (.goto (-27), 3) := by decide +kernel
theorem dd_Ch_feed_79 : decode bb_Ch_feed 79 = .ok (.aload_n 0, 1) := by decide +kernel
theorem dd_Ch_feed_80 : decode bb_Ch_feed 80 = .ok (.getfield 35, 3) := by decide +kernel
theorem dd_Ch_feed_83 : decode bb_Ch_feed 83 = .ok (.invokevirtual 102, 3) := by decide +kernel
theorem dd_Ch_feed_86 : decode bb_Ch_feed 86 = .ok (.ireturn, 1) := by decide +kernel
theorem dd_Ch_decode_0 : decode bb_Ch_decode 0 = .ok (.aload_n 0, 1) := by decide +kernel
theorem dd_Ch_decode_1 : decode bb_Ch_decode 1 = .ok (.getfield 41, 3) := by decide +kernel
theorem dd_Ch_decode_4 : decode bb_Ch_decode 4 = .ok (.aload_n 0, 1) := by decide +kernel
theorem dd_Ch_decode_5 : decode bb_Ch_decode 5 = .ok (.getfield 35, 3) := by decide +kernel
theorem dd_Ch_decode_8 : decode bb_Ch_decode 8 = .ok (.aload_n 0, 1) := by decide +kernel
theorem dd_Ch_decode_9 : decode bb_Ch_decode 9 = .ok (.getfield 16, 3) := by decide +kernel
theorem dd_Ch_decode_12 : decode bb_Ch_decode 12 = .ok (.invokevirtual 120, 3) := by decide +kernel
theorem dd_Ch_decode_15 : decode bb_Ch_decode 15 = .ok (.istore_n 1, 1) := by decide +kernel
theorem dd_Ch_decode_16 : decode bb_Ch_decode 16 = .ok (.aload_n 0, 1) := by decide +kernel
theorem dd_Ch_decode_17 : decode bb_Ch_decode 17 = .ok (.getfield 35, 3) := by decide +kernel
theorem dd_Ch_decode_20 : decode bb_Ch_decode 20 = .ok (.invokevirtual 78, 3) := by decide +kernel
theorem dd_Ch_decode_23 : decode bb_Ch_decode 23 = .ok (.iload_n 1, 1) := by decide +kernel
theorem dd_Ch_decode_24 : decode bb_Ch_decode 24 = .ok (.ifCond .ne 24, 3) := by decide +kernel
theorem dd_Ch_decode_27 : decode bb_Ch_decode 27 = .ok (.aload_n 0, 1) := by decide +kernel
theorem dd_Ch_decode_28 : decode bb_Ch_decode 28 = .ok (.aload_n 0, 1) := by decide +kernel
theorem dd_Ch_decode_29 : decode bb_Ch_decode 29 = .ok (.getfield 41, 3) := by decide +kernel
theorem dd_Ch_decode_32 : decode bb_Ch_decode 32 = .ok (.invokevirtual 124, 3) := by decide +kernel
theorem dd_Ch_decode_35 : decode bb_Ch_decode 35 = .ok (.putfield 45, 3) := by decide +kernel
theorem dd_Ch_decode_38 : decode bb_Ch_decode 38 = .ok (.new 113, 3) := by decide +kernel
theorem dd_Ch_decode_41 : decode bb_Ch_decode 41 = .ok (.dup, 1) := by decide +kernel
theorem dd_Ch_decode_42 : decode bb_Ch_decode 42 = .ok (.ldc 127, 2) := by decide +kernel
theorem dd_Ch_decode_44 : decode bb_Ch_decode 44 = .ok (.invokespecial 117, 3) := by decide +kernel
theorem dd_Ch_decode_47 : decode bb_Ch_decode 47 = .ok (.athrow, 1) := by decide +kernel
theorem dd_Ch_decode_48 : decode bb_Ch_decode 48 = .ok (.aload_n 0, 1) := by decide +kernel
theorem dd_Ch_decode_49 : decode bb_Ch_decode 49 = .ok (.iconst (-1), 1) := by decide +kernel
theorem dd_Ch_decode_50 : decode bb_Ch_decode 50 = .ok (.putfield 45, 3) := by decide +kernel
theorem dd_Ch_decode_53 : decode bb_Ch_decode 53 = .ok (.aload_n 0, 1) := by decide +kernel
theorem dd_Ch_decode_54 : decode bb_Ch_decode 54 = .ok (.getfield 12, 3) := by decide +kernel
theorem dd_Ch_decode_57 : decode bb_Ch_decode 57 = .ok (.astore_n 2, 1) := by decide +kernel
theorem dd_Ch_decode_58 : decode bb_Ch_decode 58 = .ok (.aload_n 0, 1) := by decide +kernel
theorem dd_Ch_decode_59 : decode bb_Ch_decode 59 = .ok (.aload_n 0, 1) := by decide +kernel
theorem dd_Ch_decode_60 : decode bb_Ch_decode 60 = .ok (.getfield 16, 3) := by decide +kernel
theorem dd_Ch_decode_63 : decode bb_Ch_decode 63 = .ok (.putfield 12, 3) := by decide +kernel
theorem dd_Ch_decode_66 : decode bb_Ch_decode 66 = .ok (.aload_n 0, 1) := by decide +kernel
theorem dd_Ch_decode_67 : decode bb_Ch_decode 67 = .ok (.aload_n 2, 1) := by decide +kernel
theorem dd_Ch_decode_68 : decode bb_Ch_decode 68 = .ok (.putfield 16, 3) := by decide +kernel
theorem dd_Ch_decode_71 : decode bb_Ch_decode 71 = .ok (.aload_n 0, 1) := by decide +kernel
theorem dd_Ch_decode_72 : decode bb_Ch_decode 72 = .ok (.getfield 12, 3) := by decide +kernel
theorem dd_Ch_decode_75 : decode bb_Ch_decode 75 = .ok (.invokevirtual 129, 3) := by decide +kernel
theorem dd_Ch_decode_78 : decode bb_Ch_decode 78 = .ok (.ireturn, 1) := by decide +kernel
theorem dd_Ch_count_0 : decode bb_Ch_count 0 = .ok (.iload_n 1, 1) := by decide +kernel
theorem dd_Ch_count_1 : decode bb_Ch_count 1 = .ok (.tableswitch 83 0 4 #[35, 43, 62, 70, 78], 35) := by decide +kernel
theorem dd_Ch_count_36 : decode bb_Ch_count 36 = .ok (.aload_n 0, 1) := by decide +kernel
theorem dd_Ch_count_37 : decode bb_Ch_count 37 = .ok (.getfield 12, 3) := by decide +kernel
theorem dd_Ch_count_40 : decode bb_Ch_count 40 = .ok (.invokevirtual 129, 3) := by decide +kernel
theorem dd_Ch_count_43 : decode bb_Ch_count 43 = .ok (.ireturn, 1) := by decide +kernel
theorem dd_Ch_count_44 : decode bb_Ch_count 44 = .ok (.aload_n 0, 1) := by decide +kernel
theorem dd_Ch_count_45 : decode bb_Ch_count 45 = .ok (.getfield 22, 3) := by decide +kernel
theorem dd_Ch_count_48 : decode bb_Ch_count 48 = .ok (.aload_n 0, 1) := by decide +kernel
theorem dd_Ch_count_49 : decode bb_Ch_count 49 = .ok (.getfield 12, 3) := by decide +kernel
theorem dd_Ch_count_52 : decode bb_Ch_count 52 = .ok (.invokevirtual 74, 3) := by decide +kernel
theorem dd_Ch_count_55 : decode bb_Ch_count 55 = .ok (.aload_n 0, 1) := by decide +kernel
theorem dd_Ch_count_56 : decode bb_Ch_count 56 = .ok (.getfield 22, 3) := by decide +kernel
theorem dd_Ch_count_59 : decode bb_Ch_count 59 = .ok (.invokevirtual 87, 3) := by decide +kernel
theorem dd_Ch_count_62 : decode bb_Ch_count 62 = .ok (.ireturn, 1) := by decide +kernel
theorem dd_Ch_count_63 : decode bb_Ch_count 63 = .ok (.aload_n 0, 1) := by decide +kernel
theorem dd_Ch_count_64 : decode bb_Ch_count 64 = .ok (.getfield 35, 3) := by decide +kernel
theorem dd_Ch_count_67 : decode bb_Ch_count 67 = .ok (.invokevirtual 102, 3) := by decide +kernel
theorem dd_Ch_count_70 : decode bb_Ch_count 70 = .ok (.ireturn, 1) := by decide +kernel
theorem dd_Ch_count_71 : decode bb_Ch_count 71 = .ok (.aload_n 0, 1) := by decide +kernel
theorem dd_Ch_count_72 : decode bb_Ch_count 72 = .ok (.getfield 31, 3) := by decide +kernel
theorem dd_Ch_count_75 : decode bb_Ch_count 75 = .ok (.invokevirtual 102, 3) := by decide +kernel
theorem dd_Ch_count_78 : decode bb_Ch_count 78 = .ok (.ireturn, 1) := by decide +kernel
theorem dd_Ch_count_79 : decode bb_Ch_count 79 = .ok (.aload_n 0, 1) := by decide +kernel
theorem dd_Ch_count_80 : decode bb_Ch_count 80 = .ok (.invokevirtual 130, 3) := by decide +kernel
theorem dd_Ch_count_83 : decode bb_Ch_count 83 = .ok (.ireturn, 1) := by decide +kernel
theorem dd_Ch_count_84 : decode bb_Ch_count 84 = .ok (.new 113, 3) := by decide +kernel
theorem dd_Ch_count_87 : decode bb_Ch_count 87 = .ok (.dup, 1) := by decide +kernel
theorem dd_Ch_count_88 : decode bb_Ch_count 88 = .ok (.ldc 133, 2) := by decide +kernel
theorem dd_Ch_count_90 : decode bb_Ch_count 90 = .ok (.invokespecial 117, 3) := by decide +kernel
theorem dd_Ch_count_93 : decode bb_Ch_count 93 = .ok (.athrow, 1) := by decide +kernel
theorem dd_Ch_octetsNow_0 : decode bb_Ch_octetsNow 0 = .ok (.aload_n 0, 1) := by decide +kernel
theorem dd_Ch_octetsNow_1 : decode bb_Ch_octetsNow 1 = .ok (.getfield 22, 3) := by decide +kernel
theorem dd_Ch_octetsNow_4 : decode bb_Ch_octetsNow 4 = .ok (.aload_n 0, 1) := by decide +kernel
theorem dd_Ch_octetsNow_5 : decode bb_Ch_octetsNow 5 = .ok (.getfield 12, 3) := by decide +kernel
theorem dd_Ch_octetsNow_8 : decode bb_Ch_octetsNow 8 = .ok (.invokevirtual 74, 3) := by decide +kernel
theorem dd_Ch_octetsNow_11 : decode bb_Ch_octetsNow 11 = .ok (.bipush 8, 2) := by decide +kernel
theorem dd_Ch_octetsNow_13 : decode bb_Ch_octetsNow 13 = .ok (.istore_n 1, 1) := by decide +kernel
theorem dd_Ch_octetsNow_14 : decode bb_Ch_octetsNow 14 = .ok (.iconst 0, 1) := by decide +kernel
theorem dd_Ch_octetsNow_15 : decode bb_Ch_octetsNow 15 = .ok (.istore_n 2, 1) := by decide +kernel
theorem dd_Ch_octetsNow_16 : decode bb_Ch_octetsNow 16 = .ok (.iload_n 2, 1) := by decide +kernel
theorem dd_Ch_octetsNow_17 : decode bb_Ch_octetsNow 17 = .ok (.aload_n 0, 1) := by decide +kernel
theorem dd_Ch_octetsNow_18 : decode bb_Ch_octetsNow 18 = .ok (.getfield 22, 3) := by decide +kernel
theorem dd_Ch_octetsNow_21 : decode bb_Ch_octetsNow 21 = .ok (.invokevirtual 87, 3) := by decide +kernel
theorem dd_Ch_octetsNow_24 : decode bb_Ch_octetsNow 24 = .ok (.if_icmp .ge 25, 3) := by decide +kernel
theorem dd_Ch_octetsNow_27 : decode bb_Ch_octetsNow 27 = .ok (.iload_n 1, 1) := by decide +kernel
theorem dd_Ch_octetsNow_28 : decode bb_Ch_octetsNow 28 = .ok (.iconst 1, 1) := by decide +kernel
theorem dd_Ch_octetsNow_29 : decode bb_Ch_octetsNow 29 = .ok (.aload_n 0, 1) := by decide +kernel
theorem dd_Ch_octetsNow_30 : decode bb_Ch_octetsNow 30 = .ok (.getfield 22, 3) := by decide +kernel
theorem dd_Ch_octetsNow_33 : decode bb_Ch_octetsNow 33 = .ok (.iload_n 2, 1) := by decide +kernel
theorem dd_Ch_octetsNow_34 : decode bb_Ch_octetsNow 34 = .ok (.invokevirtual 95, 3) := by decide +kernel
theorem dd_Ch_octetsNow_37 : decode bb_Ch_octetsNow 37 = .ok (.invokestatic 137, 3) := by decide +kernel
theorem dd_Ch_octetsNow_40 : decode bb_Ch_octetsNow 40 = .ok (.iadd, 1) := by decide +kernel
theorem dd_Ch_octetsNow_41 : decode bb_Ch_octetsNow 41 = .ok (.iadd, 1) := by decide +kernel
theorem dd_Ch_octetsNow_42 : decode bb_Ch_octetsNow 42 = .ok (.istore_n 1, 1) := by decide +kernel
theorem dd_Ch_octetsNow_43 : decode bb_Ch_octetsNow 43 = .ok (.iinc 2 1, 3) := by decide +kernel
theorem dd_Ch_octetsNow_46 : decode bb_Ch_octetsNow 46 = .ok (.goto (-30), 3) := by decide +kernel
theorem dd_Ch_octetsNow_49 : decode bb_Ch_octetsNow 49 = .ok (.iload_n 1, 1) := by decide +kernel
theorem dd_Ch_octetsNow_50 : decode bb_Ch_octetsNow 50 = .ok (.ireturn, 1) := by decide +kernel
