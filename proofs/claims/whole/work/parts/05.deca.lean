/-! instructions -/
theorem dd_Cl_init_0 : decode bb_Cl_init 0 = .ok (.aload_n 0, 1) := by decide +kernel
theorem dd_Cl_init_1 : decode bb_Cl_init 1 = .ok (.invokespecial 3, 3) := by decide +kernel
theorem dd_Cl_init_4 : decode bb_Cl_init 4 = .ok (.aload_n 0, 1) := by decide +kernel
theorem dd_Cl_init_5 : decode bb_Cl_init 5 = .ok (.bipush 64, 2) := by decide +kernel
theorem dd_Cl_init_7 : decode bb_Cl_init 7 = .ok (.newarray .long, 2) := by decide +kernel
theorem dd_Cl_init_9 : decode bb_Cl_init 9 = .ok (.putfield 9, 3) := by decide +kernel
theorem dd_Cl_init_12 : decode bb_Cl_init 12 = .ok (.return_, 1) := by decide +kernel
theorem dd_Ru_init_0 : decode bb_Ru_init 0 = .ok (.aload_n 0, 1) := by decide +kernel
theorem dd_Ru_init_1 : decode bb_Ru_init 1 = .ok (.invokespecial 3, 3) := by decide +kernel
theorem dd_Ru_init_4 : decode bb_Ru_init 4 = .ok (.aload_n 0, 1) := by decide +kernel
theorem dd_Ru_init_5 : decode bb_Ru_init 5 = .ok (.bipush 64, 2) := by decide +kernel
theorem dd_Ru_init_7 : decode bb_Ru_init 7 = .ok (.newarray .long, 2) := by decide +kernel
theorem dd_Ru_init_9 : decode bb_Ru_init 9 = .ok (.putfield 9, 3) := by decide +kernel
theorem dd_Ru_init_12 : decode bb_Ru_init 12 = .ok (.aload_n 0, 1) := by decide +kernel
theorem dd_Ru_init_13 : decode bb_Ru_init 13 = .ok (.bipush 64, 2) := by decide +kernel
theorem dd_Ru_init_15 : decode bb_Ru_init 15 = .ok (.newarray .int, 2) := by decide +kernel
theorem dd_Ru_init_17 : decode bb_Ru_init 17 = .ok (.putfield 15, 3) := by decide +kernel
theorem dd_Ru_init_20 : decode bb_Ru_init 20 = .ok (.return_, 1) := by decide +kernel
theorem dd_Oc_init_0 : decode bb_Oc_init 0 = .ok (.aload_n 0, 1) := by decide +kernel
theorem dd_Oc_init_1 : decode bb_Oc_init 1 = .ok (.invokespecial 1, 3) := by decide +kernel
theorem dd_Oc_init_4 : decode bb_Oc_init 4 = .ok (.aload_n 0, 1) := by decide +kernel
theorem dd_Oc_init_5 : decode bb_Oc_init 5 = .ok (.iload_n 1, 1) := by decide +kernel
theorem dd_Oc_init_6 : decode bb_Oc_init 6 = .ok (.newarray .byte, 2) := by decide +kernel
theorem dd_Oc_init_8 : decode bb_Oc_init 8 = .ok (.putfield 7, 3) := by decide +kernel
theorem dd_Oc_init_11 : decode bb_Oc_init 11 = .ok (.return_, 1) := by decide +kernel
theorem dd_Rd_init_0 : decode bb_Rd_init 0 = .ok (.aload_n 0, 1) := by decide +kernel
theorem dd_Rd_init_1 : decode bb_Rd_init 1 = .ok (.invokespecial 3, 3) := by decide +kernel
theorem dd_Rd_init_4 : decode bb_Rd_init 4 = .ok (.return_, 1) := by decide +kernel
theorem dd_Ru_gather_0 : decode bb_Ru_gather 0 = .ok (.aload_n 0, 1) := by decide +kernel
theorem dd_Ru_gather_1 : decode bb_Ru_gather 1 = .ok (.iconst 0, 1) := by decide +kernel
theorem dd_Ru_gather_2 : decode bb_Ru_gather 2 = .ok (.putfield 19, 3) := by decide +kernel
theorem dd_Ru_gather_5 : decode bb_Ru_gather 5 = .ok (.iconst 0, 1) := by decide +kernel
theorem dd_Ru_gather_6 : decode bb_Ru_gather 6 = .ok (.istore_n 2, 1) := by decide +kernel
theorem dd_Ru_gather_7 : decode bb_Ru_gather 7 = .ok (.iload_n 2, 1) := by decide +kernel
theorem dd_Ru_gather_8 : decode bb_Ru_gather 8 = .ok (.bipush 64, 2) := by decide +kernel
theorem dd_Ru_gather_10 : decode bb_Ru_gather 10 = .ok (.if_icmp .ge 26, 3) := by decide +kernel
theorem dd_Ru_gather_13 : decode bb_Ru_gather 13 = .ok (.aload_n 1, 1) := by decide +kernel
theorem dd_Ru_gather_14 : decode bb_Ru_gather 14 = .ok (.iload_n 2, 1) := by decide +kernel
theorem dd_Ru_gather_15 : decode bb_Ru_gather 15 = .ok (.invokevirtual 23, 3) := by decide +kernel
theorem dd_Ru_gather_18 : decode bb_Ru_gather 18 = .ok (.ifCond .eq 12, 3) := by decide +kernel
theorem dd_Ru_gather_21 : decode bb_Ru_gather 21 = .ok (.aload_n 0, 1) := by decide +kernel
theorem dd_Ru_gather_22 : decode bb_Ru_gather 22 = .ok (.aload_n 1, 1) := by decide +kernel
theorem dd_Ru_gather_23 : decode bb_Ru_gather 23 = .ok (.iload_n 2, 1) := by decide +kernel
theorem dd_Ru_gather_24 : decode bb_Ru_gather 24 = .ok (.invokevirtual 29, 3) := by decide +kernel
theorem dd_Ru_gather_27 : decode bb_Ru_gather 27 = .ok (.invokevirtual 33, 3) := by decide +kernel
theorem dd_Ru_gather_30 : decode bb_Ru_gather 30 = .ok (.iinc 2 1, 3) := by decide +kernel
theorem dd_Ru_gather_33 : decode bb_Ru_gather 33 = .ok (.goto (-26), 3) := by decide +kernel
theorem dd_Ru_gather_36 : decode bb_Ru_gather 36 = .ok (.return_, 1) := by decide +kernel
theorem dd_Cl_isFull_0 : decode bb_Cl_isFull 0 = .ok (.aload_n 0, 1) := by decide +kernel
theorem dd_Cl_isFull_1 : decode bb_Cl_isFull 1 = .ok (.getfield 15, 3) := by decide +kernel
theorem dd_Cl_isFull_4 : decode bb_Cl_isFull 4 = .ok (.iload_n 1, 1) := by decide +kernel
theorem dd_Cl_isFull_5 : decode bb_Cl_isFull 5 = .ok (.lushr, 1) := by decide +kernel
theorem dd_Cl_isFull_6 : decode bb_Cl_isFull 6 = .ok (.lconst 1, 1) := by decide +kernel
theorem dd_Cl_isFull_7 : decode bb_Cl_isFull 7 = .ok (.land, 1) := by decide +kernel
theorem dd_Cl_isFull_8 : decode bb_Cl_isFull 8 = .ok (.lconst 1, 1) := by decide +kernel
theorem dd_Cl_isFull_9 : decode bb_Cl_isFull 9 = .ok (.lcmp, 1) := by decide +kernel
theorem dd_Cl_isFull_10 : decode bb_Cl_isFull 10 = .ok (.ifCond .ne 7, 3) := by decide +kernel
theorem dd_Cl_isFull_13 : decode bb_Cl_isFull 13 = .ok (.iconst 1, 1) := by decide +kernel
theorem dd_Cl_isFull_14 : decode bb_Cl_isFull 14 = .ok (.goto 4, 3) := by decide +kernel
theorem dd_Cl_isFull_17 : decode bb_Cl_isFull 17 = .ok (.iconst 0, 1) := by decide +kernel
theorem dd_Cl_isFull_18 : decode bb_Cl_isFull 18 = .ok (.ireturn, 1) := by decide +kernel
theorem dd_Cl_number_0 : decode bb_Cl_number 0 = .ok (.aload_n 0, 1) := by decide +kernel
theorem dd_Cl_number_1 : decode bb_Cl_number 1 = .ok (.getfield 9, 3) := by decide +kernel
theorem dd_Cl_number_4 : decode bb_Cl_number 4 = .ok (.iload_n 1, 1) := by decide +kernel
theorem dd_Cl_number_5 : decode bb_Cl_number 5 = .ok (.laload, 1) := by decide +kernel
theorem dd_Cl_number_6 : decode bb_Cl_number 6 = .ok (.lreturn, 1) := by decide +kernel
theorem dd_Ru_addCell_0 : decode bb_Ru_addCell 0 = .ok (.aload_n 0, 1) := by decide +kernel
theorem dd_Ru_addCell_1 : decode bb_Ru_addCell 1 = .ok (.getfield 19, 3) := by decide +kernel
theorem dd_Ru_addCell_4 : decode bb_Ru_addCell 4 = .ok (.ifCond .eq 19, 3) := by decide +kernel
theorem dd_Ru_addCell_7 : decode bb_Ru_addCell 7 = .ok (.aload_n 0, 1) := by decide +kernel
theorem dd_Ru_addCell_8 : decode bb_Ru_addCell 8 = .ok (.getfield 9, 3) := by decide +kernel
theorem dd_Ru_addCell_11 : decode bb_Ru_addCell 11 = .ok (.aload_n 0, 1) := by decide +kernel
theorem dd_Ru_addCell_12 : decode bb_Ru_addCell 12 = .ok (.getfield 19, 3) := by decide +kernel
theorem dd_Ru_addCell_15 : decode bb_Ru_addCell 15 = .ok (.iconst 1, 1) := by decide +kernel
theorem dd_Ru_addCell_16 : decode bb_Ru_addCell 16 = .ok (.isub, 1) := by decide +kernel
theorem dd_Ru_addCell_17 : decode bb_Ru_addCell 17 = .ok (.laload, 1) := by decide +kernel
theorem dd_Ru_addCell_18 : decode bb_Ru_addCell 18 = .ok (.lload_n 1, 1) := by decide +kernel
theorem dd_Ru_addCell_19 : decode bb_Ru_addCell 19 = .ok (.lcmp, 1) := by decide +kernel
theorem dd_Ru_addCell_20 : decode bb_Ru_addCell 20 = .ok (.ifCond .eq 33, 3) := by decide +kernel
theorem dd_Ru_addCell_23 : decode bb_Ru_addCell 23 = .ok (.aload_n 0, 1) := by decide +kernel
theorem dd_Ru_addCell_24 : decode bb_Ru_addCell 24 = .ok (.getfield 9, 3) := by decide +kernel
theorem dd_Ru_addCell_27 : decode bb_Ru_addCell 27 = .ok (.aload_n 0, 1) := by decide +kernel
theorem dd_Ru_addCell_28 : decode bb_Ru_addCell 28 = .ok (.getfield 19, 3) := by decide +kernel
theorem dd_Ru_addCell_31 : decode bb_Ru_addCell 31 = .ok (.lload_n 1, 1) := by decide +kernel
theorem dd_Ru_addCell_32 : decode bb_Ru_addCell 32 = .ok (.lastore, 1) := by decide +kernel
theorem dd_Ru_addCell_33 : decode bb_Ru_addCell 33 = .ok (.aload_n 0, 1) := by decide +kernel
theorem dd_Ru_addCell_34 : decode bb_Ru_addCell 34 = .ok (.getfield 15, 3) := by decide +kernel
theorem dd_Ru_addCell_37 : decode bb_Ru_addCell 37 = .ok (.aload_n 0, 1) := by decide +kernel
theorem dd_Ru_addCell_38 : decode bb_Ru_addCell 38 = .ok (.getfield 19, 3) := by decide +kernel
theorem dd_Ru_addCell_41 : decode bb_Ru_addCell 41 = .ok (.iconst 0, 1) := by decide +kernel
theorem dd_Ru_addCell_42 : decode bb_Ru_addCell 42 = .ok (.iastore, 1) := by decide +kernel
theorem dd_Ru_addCell_43 : decode bb_Ru_addCell 43 = .ok (.aload_n 0, 1) := by decide +kernel
theorem dd_Ru_addCell_44 : decode bb_Ru_addCell 44 = .ok (.dup, 1) := by decide +kernel
theorem dd_Ru_addCell_45 : decode bb_Ru_addCell 45 = .ok (.getfield 19, 3) := by decide +kernel
theorem dd_Ru_addCell_48 : decode bb_Ru_addCell 48 = .ok (.iconst 1, 1) := by decide +kernel
theorem dd_Ru_addCell_49 : decode bb_Ru_addCell 49 = .ok (.iadd, 1) := by decide +kernel
theorem dd_Ru_addCell_50 : decode bb_Ru_addCell 50 = .ok (.putfield 19, 3) := by decide +kernel
theorem dd_Ru_addCell_53 : decode bb_Ru_addCell 53 = .ok (.aload_n 0, 1) := by decide +kernel
theorem dd_Ru_addCell_54 : decode bb_Ru_addCell 54 = .ok (.getfield 15, 3) := by decide +kernel
theorem dd_Ru_addCell_57 : decode bb_Ru_addCell 57 = .ok (.aload_n 0, 1) := by decide +kernel
theorem dd_Ru_addCell_58 : decode bb_Ru_addCell 58 = .ok (.getfield 19, 3) := by decide +kernel
theorem dd_Ru_addCell_61 : decode bb_Ru_addCell 61 = .ok (.iconst 1, 1) := by decide +kernel
theorem dd_Ru_addCell_62 : decode bb_Ru_addCell 62 = .ok (.isub, 1) := by decide +kernel
theorem dd_Ru_addCell_63 : decode bb_Ru_addCell 63 = .ok (.dup2, 1) := by decide +kernel
theorem dd_Ru_addCell_64 : decode bb_Ru_addCell 64 = .ok (.iaload, 1) := by decide +kernel
theorem dd_Ru_addCell_65 : decode bb_Ru_addCell 65 = .ok (.iconst 1, 1) := by decide +kernel
theorem dd_Ru_addCell_66 : decode bb_Ru_addCell 66 = .ok (.iadd, 1) := by decide +kernel
theorem dd_Ru_addCell_67 : decode bb_Ru_addCell 67 = .ok (.iastore, 1) := by decide +kernel
theorem dd_Ru_addCell_68 : decode bb_Ru_addCell 68 = .ok (.return_, 1) := by decide +kernel
theorem dd_Oc_clear_0 : decode bb_Oc_clear 0 = .ok (.aload_n 0, 1) := by decide +kernel
theorem dd_Oc_clear_1 : decode bb_Oc_clear 1 = .ok (.iconst 0, 1) := by decide +kernel
theorem dd_Oc_clear_2 : decode bb_Oc_clear 2 = .ok (.putfield 13, 3) := by decide +kernel
theorem dd_Oc_clear_5 : decode bb_Oc_clear 5 = .ok (.return_, 1) := by decide +kernel
theorem dd_Cl_mask_0 : decode bb_Cl_mask 0 = .ok (.aload_n 0, 1) := by decide +kernel
theorem dd_Cl_mask_1 : decode bb_Cl_mask 1 = .ok (.getfield 15, 3) := by decide +kernel
theorem dd_Cl_mask_4 : decode bb_Cl_mask 4 = .ok (.lreturn, 1) := by decide +kernel
theorem dd_Oc_add_0 : decode bb_Oc_add 0 = .ok (.aload_n 0, 1) := by decide +kernel
theorem dd_Oc_add_1 : decode bb_Oc_add 1 = .ok (.getfield 7, 3) := by decide +kernel
theorem dd_Oc_add_4 : decode bb_Oc_add 4 = .ok (.aload_n 0, 1) := by decide +kernel
theorem dd_Oc_add_5 : decode bb_Oc_add 5 = .ok (.getfield 13, 3) := by decide +kernel
theorem dd_Oc_add_8 : decode bb_Oc_add 8 = .ok (.iload_n 1, 1) := by decide +kernel
theorem dd_Oc_add_9 : decode bb_Oc_add 9 = .ok (.i2b, 1) := by decide +kernel
theorem dd_Oc_add_10 : decode bb_Oc_add 10 = .ok (.bastore, 1) := by decide +kernel
theorem dd_Oc_add_11 : decode bb_Oc_add 11 = .ok (.aload_n 0, 1) := by decide +kernel
theorem dd_Oc_add_12 : decode bb_Oc_add 12 = .ok (.dup, 1) := by decide +kernel
theorem dd_Oc_add_13 : decode bb_Oc_add 13 = .ok (.getfield 13, 3) := by decide +kernel
theorem dd_Oc_add_16 : decode bb_Oc_add 16 = .ok (.iconst 1, 1) := by decide +kernel
theorem dd_Oc_add_17 : decode bb_Oc_add 17 = .ok (.iadd, 1) := by decide +kernel
theorem dd_Oc_add_18 : decode bb_Oc_add 18 = .ok (.putfield 13, 3) := by decide +kernel
theorem dd_Oc_add_21 : decode bb_Oc_add 21 = .ok (.return_, 1) := by decide +kernel
theorem dd_Ru_many_0 : decode bb_Ru_many 0 = .ok (.aload_n 0, 1) := by decide +kernel
theorem dd_Ru_many_1 : decode bb_Ru_many 1 = .ok (.getfield 19, 3) := by decide +kernel
theorem dd_Ru_many_4 : decode bb_Ru_many 4 = .ok (.ireturn, 1) := by decide +kernel
theorem dd_Ru_size_0 : decode bb_Ru_size 0 = .ok (.aload_n 0, 1) := by decide +kernel
theorem dd_Ru_size_1 : decode bb_Ru_size 1 = .ok (.getfield 15, 3) := by decide +kernel
theorem dd_Ru_size_4 : decode bb_Ru_size 4 = .ok (.iload_n 1, 1) := by decide +kernel
theorem dd_Ru_size_5 : decode bb_Ru_size 5 = .ok (.iaload, 1) := by decide +kernel
theorem dd_Ru_size_6 : decode bb_Ru_size 6 = .ok (.ireturn, 1) := by decide +kernel
theorem dd_Ru_folded_0 : decode bb_Ru_folded 0 = .ok (.iload_n 1, 1) := by decide +kernel
theorem dd_Ru_folded_1 : decode bb_Ru_folded 1 = .ok (.ifCond .ne 7, 3) := by decide +kernel
theorem dd_Ru_folded_4 : decode bb_Ru_folded 4 = .ok (.lconst 0, 1) := by decide +kernel
theorem dd_Ru_folded_5 : decode bb_Ru_folded 5 = .ok (.goto 11, 3) := by decide +kernel
theorem dd_Ru_folded_8 : decode bb_Ru_folded 8 = .ok (.aload_n 0, 1) := by decide +kernel
theorem dd_Ru_folded_9 : decode bb_Ru_folded 9 = .ok (.getfield 9, 3) := by decide +kernel
theorem dd_Ru_folded_12 : decode bb_Ru_folded 12 = .ok (.iload_n 1, 1) := by decide +kernel
theorem dd_Ru_folded_13 : decode bb_Ru_folded 13 = .ok (.iconst 1, 1) := by decide +kernel
theorem dd_Ru_folded_14 : decode bb_Ru_folded 14 = .ok (.isub, 1) := by decide +kernel
theorem dd_Ru_folded_15 : decode bb_Ru_folded 15 = .ok (.laload, 1) := by decide +kernel
theorem dd_Ru_folded_16 : decode bb_Ru_folded 16 = .ok (.lstore_n 2, 1) := by decide +kernel
theorem dd_Ru_folded_17 : decode bb_Ru_folded 17 = .ok (.aload_n 0, 1) := by decide +kernel
theorem dd_Ru_folded_18 : decode bb_Ru_folded 18 = .ok (.getfield 9, 3) := by decide +kernel
theorem dd_Ru_folded_21 : decode bb_Ru_folded 21 = .ok (.iload_n 1, 1) := by decide +kernel
theorem dd_Ru_folded_22 : decode bb_Ru_folded 22 = .ok (.laload, 1) := by decide +kernel
theorem dd_Ru_folded_23 : decode bb_Ru_folded 23 = .ok (.lload_n 2, 1) := by decide +kernel
theorem dd_Ru_folded_24 : decode bb_Ru_folded 24 = .ok (.lsub, 1) := by decide +kernel
theorem dd_Ru_folded_25 : decode bb_Ru_folded 25 = .ok (.lstore 4, 2) := by decide +kernel
theorem dd_Ru_folded_27 : decode bb_Ru_folded 27 = .ok (.lload 4, 2) := by decide +kernel
theorem dd_Ru_folded_29 : decode bb_Ru_folded 29 = .ok (.iconst 1, 1) := by decide +kernel
theorem dd_Ru_folded_30 : decode bb_Ru_folded 30 = .ok (.lshl, 1) := by decide +kernel
theorem dd_Ru_folded_31 : decode bb_Ru_folded 31 = .ok (.lload 4, 2) := by decide +kernel
theorem dd_Ru_folded_33 : decode bb_Ru_folded 33 = .ok (.bipush 63, 2) := by decide +kernel
theorem dd_Ru_folded_35 : decode bb_Ru_folded 35 = .ok (.lshr, 1) := by decide +kernel
theorem dd_Ru_folded_36 : decode bb_Ru_folded 36 = .ok (.lxor, 1) := by decide +kernel
theorem dd_Ru_folded_37 : decode bb_Ru_folded 37 = .ok (.lreturn, 1) := by decide +kernel
theorem dd_Oc_length_0 : decode bb_Oc_length 0 = .ok (.aload_n 0, 1) := by decide +kernel
theorem dd_Oc_length_1 : decode bb_Oc_length 1 = .ok (.getfield 13, 3) := by decide +kernel
theorem dd_Oc_length_4 : decode bb_Oc_length 4 = .ok (.ireturn, 1) := by decide +kernel
theorem dd_Cl_fill_0 : decode bb_Cl_fill 0 = .ok (.aload_n 0, 1) := by decide +kernel
theorem dd_Cl_fill_1 : decode bb_Cl_fill 1 = .ok (.getfield 9, 3) := by decide +kernel
theorem dd_Cl_fill_4 : decode bb_Cl_fill 4 = .ok (.iload_n 1, 1) := by decide +kernel
theorem dd_Cl_fill_5 : decode bb_Cl_fill 5 = .ok (.lload_n 2, 1) := by decide +kernel
theorem dd_Cl_fill_6 : decode bb_Cl_fill 6 = .ok (.lastore, 1) := by decide +kernel
theorem dd_Cl_fill_7 : decode bb_Cl_fill 7 = .ok (.aload_n 0, 1) := by decide +kernel
theorem dd_Cl_fill_8 : decode bb_Cl_fill 8 = .ok (.dup, 1) := by decide +kernel
theorem dd_Cl_fill_9 : decode bb_Cl_fill 9 = .ok (.getfield 15, 3) := by decide +kernel
theorem dd_Cl_fill_12 : decode bb_Cl_fill 12 = .ok (.lconst 1, 1) := by decide +kernel
theorem dd_Cl_fill_13 : decode bb_Cl_fill 13 = .ok (.iload_n 1, 1) := by decide +kernel
theorem dd_Cl_fill_14 : decode bb_Cl_fill 14 = .ok (.lshl, 1) := by decide +kernel
theorem dd_Cl_fill_15 : decode bb_Cl_fill 15 = .ok (.lor, 1) := by decide +kernel
theorem dd_Cl_fill_16 : decode bb_Cl_fill 16 = .ok (.putfield 15, 3) := by decide +kernel
theorem dd_Cl_fill_19 : decode bb_Cl_fill 19 = .ok (.return_, 1) := by decide +kernel
theorem dd_Cl_clear_0 : decode bb_Cl_clear 0 = .ok (.aload_n 0, 1) := by decide +kernel
theorem dd_Cl_clear_1 : decode bb_Cl_clear 1 = .ok (.dup, 1) := by decide +kernel
theorem dd_Cl_clear_2 : decode bb_Cl_clear 2 = .ok (.getfield 15, 3) := by decide +kernel
theorem dd_Cl_clear_5 : decode bb_Cl_clear 5 = .ok (.lconst 1, 1) := by decide +kernel
theorem dd_Cl_clear_6 : decode bb_Cl_clear 6 = .ok (.iload_n 1, 1) := by decide +kernel
theorem dd_Cl_clear_7 : decode bb_Cl_clear 7 = .ok (.lshl, 1) := by decide +kernel
theorem dd_Cl_clear_8 : decode bb_Cl_clear 8 = .ok (.ldc2_w 19, 3) := by decide +kernel
theorem dd_Cl_clear_11 : decode bb_Cl_clear 11 = .ok (.lxor, 1) := by decide +kernel
theorem dd_Cl_clear_12 : decode bb_Cl_clear 12 = .ok (.land, 1) := by decide +kernel
theorem dd_Cl_clear_13 : decode bb_Cl_clear 13 = .ok (.putfield 15, 3) := by decide +kernel
theorem dd_Cl_clear_16 : decode bb_Cl_clear 16 = .ok (.return_, 1) := by decide +kernel
theorem dd_Oc_octetOrZero_0 : decode bb_Oc_octetOrZero 0 = .ok (.iload_n 1, 1) := by decide +kernel
theorem dd_Oc_octetOrZero_1 : decode bb_Oc_octetOrZero 1 = .ok (.aload_n 0, 1) := by decide +kernel
theorem dd_Oc_octetOrZero_2 : decode bb_Oc_octetOrZero 2 = .ok (.getfield 13, 3) := by decide +kernel
theorem dd_Oc_octetOrZero_5 : decode bb_Oc_octetOrZero 5 = .ok (.if_icmp .ge 16, 3) := by decide +kernel
theorem dd_Oc_octetOrZero_8 : decode bb_Oc_octetOrZero 8 = .ok (.aload_n 0, 1) := by decide +kernel
theorem dd_Oc_octetOrZero_9 : decode bb_Oc_octetOrZero 9 = .ok (.getfield 7, 3) := by decide +kernel
theorem dd_Oc_octetOrZero_12 : decode bb_Oc_octetOrZero 12 = .ok (.iload_n 1, 1) := by decide +kernel
theorem dd_Oc_octetOrZero_13 : decode bb_Oc_octetOrZero 13 = .ok (.baload, 1) := by decide +kernel
theorem dd_Oc_octetOrZero_14 : decode bb_Oc_octetOrZero 14 = .ok (.sipush 255, 3) := by decide +kernel
theorem dd_Oc_octetOrZero_17 : decode bb_Oc_octetOrZero 17 = .ok (.iand, 1) := by decide +kernel
theorem dd_Oc_octetOrZero_18 : decode bb_Oc_octetOrZero 18 = .ok (.goto 4, 3) := by decide +kernel
theorem dd_Oc_octetOrZero_21 : decode bb_Oc_octetOrZero 21 = .ok (.iconst 0, 1) := by decide +kernel
theorem dd_Oc_octetOrZero_22 : decode bb_Oc_octetOrZero 22 = .ok (.ireturn, 1) := by decide +kernel
theorem dd_Rd_read_0 : decode bb_Rd_read 0 = .ok (.aload_n 0, 1) := by decide +kernel
theorem dd_Rd_read_1 : decode bb_Rd_read 1 = .ok (.iconst 0, 1) := by decide +kernel
theorem dd_Rd_read_2 : decode bb_Rd_read 2 = .ok (.putfield 9, 3) := by decide +kernel
theorem dd_Rd_read_5 : decode bb_Rd_read 5 = .ok (.aload_n 2, 1) := by decide +kernel
theorem dd_Rd_read_6 : decode bb_Rd_read 6 = .ok (.invokevirtual 15, 3) := by decide +kernel
theorem dd_Rd_read_9 : decode bb_Rd_read 9 = .ok (.aload_n 1, 1) := by decide +kernel
theorem dd_Rd_read_10 : decode bb_Rd_read 10 = .ok (.invokevirtual 20, 3) := by decide +kernel
theorem dd_Rd_read_13 : decode bb_Rd_read 13 = .ok (.bipush 8, 2) := by decide +kernel
theorem dd_Rd_read_15 : decode bb_Rd_read 15 = .ok (.if_icmp .ge 13, 3) := by decide +kernel
theorem dd_Rd_read_18 : decode bb_Rd_read 18 = .ok (.aload_n 0, 1) := by decide +kernel
theorem dd_Rd_read_19 : decode bb_Rd_read 19 = .ok (.aload_n 1, 1) := by decide +kernel
theorem dd_Rd_read_20 : decode bb_Rd_read 20 = .ok (.invokevirtual 20, 3) := by decide +kernel
theorem dd_Rd_read_23 : decode bb_Rd_read 23 = .ok (.putfield 9, 3) := by decide +kernel
theorem dd_Rd_read_26 : decode bb_Rd_read 26 = .ok (.iconst 0, 1) := by decide +kernel
theorem dd_Rd_read_27 : decode bb_Rd_read 27 = .ok (.ireturn, 1) := by decide +kernel
theorem dd_Rd_read_28 : decode bb_Rd_read 28 = .ok (.aload_n 0, 1) := by decide +kernel
theorem dd_Rd_read_29 : decode bb_Rd_read 29 = .ok (.aload_n 1, 1) := by decide +kernel
theorem dd_Rd_read_30 : decode bb_Rd_read 30 = .ok (.invokevirtual 26, 3) := by decide +kernel
theorem dd_Rd_read_33 : decode bb_Rd_read 33 = .ok (.lstore_n 3, 1) := by decide +kernel
theorem dd_Rd_read_34 : decode bb_Rd_read 34 = .ok (.aload_n 0, 1) := by decide +kernel
theorem dd_Rd_read_35 : decode bb_Rd_read 35 = .ok (.aload_n 1, 1) := by decide +kernel
theorem dd_Rd_read_36 : decode bb_Rd_read 36 = .ok (.lload_n 3, 1) := by decide +kernel
theorem dd_Rd_read_37 : decode bb_Rd_read 37 = .ok (.aload_n 2, 1) := by decide +kernel
theorem dd_Rd_read_38 : decode bb_Rd_read 38 = .ok (.invokevirtual 30, 3) := by decide +kernel
theorem dd_Rd_read_41 : decode bb_Rd_read 41 = .ok (.ifCond .eq 18, 3) := by decide +kernel
theorem dd_Rd_read_44 : decode bb_Rd_read 44 = .ok (.aload_n 0, 1) := by decide +kernel
theorem dd_Rd_read_45 : decode bb_Rd_read 45 = .ok (.getfield 9, 3) := by decide +kernel
theorem dd_Rd_read_48 : decode bb_Rd_read 48 = .ok (.aload_n 1, 1) := by decide +kernel
theorem dd_Rd_read_49 : decode bb_Rd_read 49 = .ok (.invokevirtual 20, 3) := by decide +kernel
theorem dd_Rd_read_52 : decode bb_Rd_read 52 = .ok (.if_icmp .ne 7, 3) := by decide +kernel
theorem dd_Rd_read_55 : decode bb_Rd_read 55 = .ok (.iconst 1, 1) := by decide +kernel
theorem dd_Rd_read_56 : decode bb_Rd_read 56 = .ok (.goto 4, 3) := by decide +kernel
theorem dd_Rd_read_59 : decode bb_Rd_read 59 = .ok (.iconst 0, 1) := by decide +kernel
theorem dd_Rd_read_60 : decode bb_Rd_read 60 = .ok (.ireturn, 1) := by decide +kernel
theorem dd_Cl_clearAll_0 : decode bb_Cl_clearAll 0 = .ok (.aload_n 0, 1) := by decide +kernel
theorem dd_Cl_clearAll_1 : decode bb_Cl_clearAll 1 = .ok (.lconst 0, 1) := by decide +kernel
theorem dd_Cl_clearAll_2 : decode bb_Cl_clearAll 2 = .ok (.putfield 15, 3) := by decide +kernel
theorem dd_Cl_clearAll_5 : decode bb_Cl_clearAll 5 = .ok (.return_, 1) := by decide +kernel
theorem dd_Rd_readMask_0 : decode bb_Rd_readMask 0 = .ok (.lconst 0, 1) := by decide +kernel
theorem dd_Rd_readMask_1 : decode bb_Rd_readMask 1 = .ok (.lstore_n 2, 1) := by decide +kernel
theorem dd_Rd_readMask_2 : decode bb_Rd_readMask 2 = .ok (.iconst 0, 1) := by decide +kernel
theorem dd_Rd_readMask_3 : decode bb_Rd_readMask 3 = .ok (.istore 4, 2) := by decide +kernel
theorem dd_Rd_readMask_5 : decode bb_Rd_readMask 5 = .ok (.iload 4, 2) := by decide +kernel
theorem dd_Rd_readMask_7 : decode bb_Rd_readMask 7 = .ok (.bipush 8, 2) := by decide +kernel
theorem dd_Rd_readMask_9 : decode bb_Rd_readMask 9 = .ok (.if_icmp .ge 25, 3) := by decide +kernel
theorem dd_Rd_readMask_12 : decode bb_Rd_readMask 12 = .ok (.lload_n 2, 1) := by decide +kernel
theorem dd_Rd_readMask_13 : decode bb_Rd_readMask 13 = .ok (.aload_n 1, 1) := by decide +kernel
theorem dd_Rd_readMask_14 : decode bb_Rd_readMask 14 = .ok (.iload 4, 2) := by decide +kernel
theorem dd_Rd_readMask_16 : decode bb_Rd_readMask 16 = .ok (.invokevirtual 34, 3) := by decide +kernel
theorem dd_Rd_readMask_19 : decode bb_Rd_readMask 19 = .ok (.i2l, 1) := by decide +kernel
theorem dd_Rd_readMask_20 : decode bb_Rd_readMask 20 = .ok (.bipush 8, 2) := by decide +kernel
theorem dd_Rd_readMask_22 : decode bb_Rd_readMask 22 = .ok (.iload 4, 2) := by decide +kernel
theorem dd_Rd_readMask_24 : decode bb_Rd_readMask 24 = .ok (.imul, 1) := by decide +kernel
theorem dd_Rd_readMask_25 : decode bb_Rd_readMask 25 = .ok (.lshl, 1) := by decide +kernel
theorem dd_Rd_readMask_26 : decode bb_Rd_readMask 26 = .ok (.lor, 1) := by decide +kernel
theorem dd_Rd_readMask_27 : decode bb_Rd_readMask 27 = .ok (.lstore_n 2, 1) := by decide +kernel
theorem dd_Rd_readMask_28 : decode bb_Rd_readMask 28 = .ok (.iinc 4 1, 3) := by decide +kernel
theorem dd_Rd_readMask_31 : decode bb_Rd_readMask 31 = .ok (.goto (-26), 3) := by decide +kernel
theorem dd_Rd_readMask_34 : decode bb_Rd_readMask 34 = .ok (.aload_n 0, 1) := by decide +kernel
theorem dd_Rd_readMask_35 : decode bb_Rd_readMask 35 = .ok (.bipush 8, 2) := by decide +kernel
theorem dd_Rd_readMask_37 : decode bb_Rd_readMask 37 = .ok (.putfield 9, 3) := by decide +kernel
theorem dd_Rd_readMask_40 : decode bb_Rd_readMask 40 = .ok (.lload_n 2, 1) := by decide +kernel
theorem dd_Rd_readMask_41 : decode bb_Rd_readMask 41 = .ok (.lreturn, 1) := by decide +kernel
theorem dd_Rd_readRuns_0 : decode bb_Rd_readRuns 0 = .ok (.lload_n 2, 1) := by decide +kernel
theorem dd_Rd_readRuns_1 : decode bb_Rd_readRuns 1 = .ok (.invokestatic 38, 3) := by decide +kernel
theorem dd_Rd_readRuns_4 : decode bb_Rd_readRuns 4 = .ok (.istore 5, 2) := by decide +kernel
theorem dd_Rd_readRuns_6 : decode bb_Rd_readRuns 6 = .ok (.iconst 0, 1) := by decide +kernel
theorem dd_Rd_readRuns_7 : decode bb_Rd_readRuns 7 = .ok (.istore 6, 2) := by decide +kernel
theorem dd_Rd_readRuns_9 : decode bb_Rd_readRuns 9 = .ok (.lconst 0, 1) := by decide +kernel
theorem dd_Rd_readRuns_10 : decode bb_Rd_readRuns 10 = .ok (.lstore 7, 2) := by decide +kernel
theorem dd_Rd_readRuns_12 : decode bb_Rd_readRuns 12 = .ok (.iconst 1, 1) := by decide +kernel
theorem dd_Rd_readRuns_13 : decode bb_Rd_readRuns 13 = .ok (.istore 9, 2) := by decide +kernel
theorem dd_Rd_readRuns_15 : decode bb_Rd_readRuns 15 = .ok (.iconst 0, 1) := by decide +kernel
theorem dd_Rd_readRuns_16 : decode bb_Rd_readRuns 16 = .ok (.istore 10, 2) := by decide +kernel
theorem dd_Rd_readRuns_18 : decode bb_Rd_readRuns 18 = .ok (.iload 10, 2) := by decide +kernel
theorem dd_Rd_readRuns_20 : decode bb_Rd_readRuns 20 = .ok (.bipush 64, 2) := by decide +kernel
theorem dd_Rd_readRuns_22 : decode bb_Rd_readRuns 22 = .ok (.if_icmp .ge 91, 3) := by decide +kernel
theorem dd_Rd_readRuns_25 : decode bb_Rd_readRuns 25 = .ok (.lload_n 2, 1) := by decide +kernel
theorem dd_Rd_readRuns_26 : decode bb_Rd_readRuns 26 = .ok (.iload 10, 2) := by decide +kernel
theorem dd_Rd_readRuns_28 : decode bb_Rd_readRuns 28 = .ok (.lushr, 1) := by decide +kernel
theorem dd_Rd_readRuns_29 : decode bb_Rd_readRuns 29 = .ok (.lconst 1, 1) := by decide +kernel
theorem dd_Rd_readRuns_30 : decode bb_Rd_readRuns 30 = .ok (.land, 1) := by decide +kernel
theorem dd_Rd_readRuns_31 : decode bb_Rd_readRuns 31 = .ok (.lconst 0, 1) := by decide +kernel
theorem dd_Rd_readRuns_32 : decode bb_Rd_readRuns 32 = .ok (.lcmp, 1) := by decide +kernel
theorem dd_Rd_readRuns_33 : decode bb_Rd_readRuns 33 = .ok (.ifCond .ne 6, 3) := by decide +kernel
theorem dd_Rd_readRuns_36 : decode bb_Rd_readRuns 36 = .ok (.goto 71, 3) := by decide +kernel
theorem dd_Rd_readRuns_39 : decode bb_Rd_readRuns 39 = .ok (.iload 6, 2) := by decide +kernel
theorem dd_Rd_readRuns_41 : decode bb_Rd_readRuns 41 = .ok (.ifCond .ne 51, 3) := by decide +kernel
theorem dd_Rd_readRuns_44 : decode bb_Rd_readRuns 44 = .ok (.aload_n 0, 1) := by decide +kernel
theorem dd_Rd_readRuns_45 : decode bb_Rd_readRuns 45 = .ok (.aload_n 1, 1) := by decide +kernel
theorem dd_Rd_readRuns_46 : decode bb_Rd_readRuns 46 = .ok (.iload 5, 2) := by decide +kernel
theorem dd_Rd_readRuns_48 : decode bb_Rd_readRuns 48 = .ok (.invokevirtual 44, 3) := by decide +kernel
theorem dd_Rd_readRuns_51 : decode bb_Rd_readRuns 51 = .ok (.istore 6, 2) := by decide +kernel
theorem dd_Rd_readRuns_53 : decode bb_Rd_readRuns 53 = .ok (.iload 6, 2) := by decide +kernel
theorem dd_Rd_readRuns_55 : decode bb_Rd_readRuns 55 = .ok (.ifCond .eq 13, 3) := by decide +kernel
theorem dd_Rd_readRuns_58 : decode bb_Rd_readRuns 58 = .ok (.aload_n 0, 1) := by decide +kernel
theorem dd_Rd_readRuns_59 : decode bb_Rd_readRuns 59 = .ok (.aload_n 1, 1) := by decide +kernel
theorem dd_Rd_readRuns_60 : decode bb_Rd_readRuns 60 = .ok (.iload 9, 2) := by decide +kernel
theorem dd_Rd_readRuns_62 : decode bb_Rd_readRuns 62 = .ok (.invokevirtual 48, 3) := by decide +kernel
theorem dd_Rd_readRuns_65 : decode bb_Rd_readRuns 65 = .ok (.ifCond .ne 5, 3) := by decide +kernel
theorem dd_Rd_readRuns_68 : decode bb_Rd_readRuns 68 = .ok (.iconst 0, 1) := by decide +kernel
theorem dd_Rd_readRuns_69 : decode bb_Rd_readRuns 69 = .ok (.ireturn, 1) := by decide +kernel
theorem dd_Rd_readRuns_70 : decode bb_Rd_readRuns 70 = .ok (.lload 7, 2) := by decide +kernel
theorem dd_Rd_readRuns_72 : decode bb_Rd_readRuns 72 = .ok (.aload_n 0, 1) := by decide +kernel
theorem dd_Rd_readRuns_73 : decode bb_Rd_readRuns 73 = .ok (.getfield 52, 3) := by decide +kernel
theorem dd_Rd_readRuns_76 : decode bb_Rd_readRuns 76 = .ok (.iconst 1, 1) := by decide +kernel
theorem dd_Rd_readRuns_77 : decode bb_Rd_readRuns 77 = .ok (.lushr, 1) := by decide +kernel
theorem dd_Rd_readRuns_78 : decode bb_Rd_readRuns 78 = .ok (.aload_n 0, 1) := by decide +kernel
theorem dd_Rd_readRuns_79 : decode bb_Rd_readRuns 79 = .ok (.getfield 52, 3) := by decide +kernel
theorem dd_Rd_readRuns_82 : decode bb_Rd_readRuns 82 = .ok (.lconst 1, 1) := by decide +kernel
theorem dd_Rd_readRuns_83 : decode bb_Rd_readRuns 83 = .ok (.land, 1) := by decide +kernel
theorem dd_Rd_readRuns_84 : decode bb_Rd_readRuns 84 = .ok (.lneg, 1) := by decide +kernel
theorem dd_Rd_readRuns_85 : decode bb_Rd_readRuns 85 = .ok (.lxor, 1) := by decide +kernel
theorem dd_Rd_readRuns_86 : decode bb_Rd_readRuns 86 = .ok (.ladd, 1) := by decide +kernel
theorem dd_Rd_readRuns_87 : decode bb_Rd_readRuns 87 = .ok (.lstore 7, 2) := by decide +kernel
theorem dd_Rd_readRuns_89 : decode bb_Rd_readRuns 89 = .ok (.iconst 0, 1) := by decide +kernel
theorem dd_Rd_readRuns_90 : decode bb_Rd_readRuns 90 = .ok (.istore 9, 2) := by decide +kernel
theorem dd_Rd_readRuns_92 : decode bb_Rd_readRuns 92 = .ok (.aload 4, 2) := by decide +kernel
theorem dd_Rd_readRuns_94 : decode bb_Rd_readRuns 94 = .ok (.iload 10, 2) := by decide +kernel
theorem dd_Rd_readRuns_96 : decode bb_Rd_readRuns 96 = .ok (.lload 7, 2) := by decide +kernel
theorem dd_Rd_readRuns_98 : decode bb_Rd_readRuns 98 = .ok (.invokevirtual 56, 3) := by decide +kernel
theorem dd_Rd_readRuns_101 : decode bb_Rd_readRuns 101 = .ok (.iinc 5 (-1), 3) := by decide +kernel
theorem dd_Rd_readRuns_104 : decode bb_Rd_readRuns 104 = .ok (.iinc 6 (-1), 3) := by decide +kernel
theorem dd_Rd_readRuns_107 : decode bb_Rd_readRuns 107 = .ok (.iinc 10 1, 3) := by decide +kernel
theorem dd_Rd_readRuns_110 : decode bb_Rd_readRuns 110 = .ok (.goto (-92), 3) := by decide +kernel
theorem dd_Rd_readRuns_113 : decode bb_Rd_readRuns 113 = .ok (.iconst 1, 1) := by decide +kernel
theorem dd_Rd_readRuns_114 : decode bb_Rd_readRuns 114 = .ok (.ireturn, 1) := by decide +kernel
theorem dd_Lo_bitCount_0 : decode bb_Lo_bitCount 0 = .ok (.lload_n 0, 1) := by decide +kernel
theorem dd_Lo_bitCount_1 : decode bb_Lo_bitCount 1 = .ok (.lload_n 0, 1) := by decide +kernel
theorem dd_Lo_bitCount_2 : decode bb_Lo_bitCount 2 = .ok (.iconst 1, 1) := by decide +kernel
theorem dd_Lo_bitCount_3 : decode bb_Lo_bitCount 3 = .ok (.lushr, 1) := by decide +kernel
theorem dd_Lo_bitCount_4 : decode bb_Lo_bitCount 4 = .ok (.ldc2_w 314, 3) := by decide +kernel
theorem dd_Lo_bitCount_7 : decode bb_Lo_bitCount 7 = .ok (.land, 1) := by decide +kernel
theorem dd_Lo_bitCount_8 : decode bb_Lo_bitCount 8 = .ok (.lsub, 1) := by decide +kernel
theorem dd_Lo_bitCount_9 : decode bb_Lo_bitCount 9 = .ok (.lstore_n 0, 1) := by decide +kernel
theorem dd_Lo_bitCount_10 : decode bb_Lo_bitCount 10 = .ok (.lload_n 0, 1) := by decide +kernel
theorem dd_Lo_bitCount_11 : decode bb_Lo_bitCount 11 = .ok (.ldc2_w 316, 3) := by decide +kernel
theorem dd_Lo_bitCount_14 : decode bb_Lo_bitCount 14 = .ok (.land, 1) := by decide +kernel
theorem dd_Lo_bitCount_15 : decode bb_Lo_bitCount 15 = .ok (.lload_n 0, 1) := by decide +kernel
theorem dd_Lo_bitCount_16 : decode bb_Lo_bitCount 16 = .ok (.iconst 2, 1) := by decide +kernel
theorem dd_Lo_bitCount_17 : decode bb_Lo_bitCount 17 = .ok (.lushr, 1) := by decide +kernel
theorem dd_Lo_bitCount_18 : decode bb_Lo_bitCount 18 = .ok (.ldc2_w 316, 3) := by decide +kernel
theorem dd_Lo_bitCount_21 : decode bb_Lo_bitCount 21 = .ok (.land, 1) := by decide +kernel
theorem dd_Lo_bitCount_22 : decode bb_Lo_bitCount 22 = .ok (.ladd, 1) := by decide +kernel
theorem dd_Lo_bitCount_23 : decode bb_Lo_bitCount 23 = .ok (.lstore_n 0, 1) := by decide +kernel
theorem dd_Lo_bitCount_24 : decode bb_Lo_bitCount 24 = .ok (.lload_n 0, 1) := by decide +kernel
theorem dd_Lo_bitCount_25 : decode bb_Lo_bitCount 25 = .ok (.lload_n 0, 1) := by decide +kernel
theorem dd_Lo_bitCount_26 : decode bb_Lo_bitCount 26 = .ok (.iconst 4, 1) := by decide +kernel
theorem dd_Lo_bitCount_27 : decode bb_Lo_bitCount 27 = .ok (.lushr, 1) := by decide +kernel
theorem dd_Lo_bitCount_28 : decode bb_Lo_bitCount 28 = .ok (.ladd, 1) := by decide +kernel
theorem dd_Lo_bitCount_29 : decode bb_Lo_bitCount 29 = .ok (.ldc2_w 318, 3) := by decide +kernel
theorem dd_Lo_bitCount_32 : decode bb_Lo_bitCount 32 = .ok (.land, 1) := by decide +kernel
theorem dd_Lo_bitCount_33 : decode bb_Lo_bitCount 33 = .ok (.lstore_n 0, 1) := by decide +kernel
theorem dd_Lo_bitCount_34 : decode bb_Lo_bitCount 34 = .ok (.lload_n 0, 1) := by decide +kernel
theorem dd_Lo_bitCount_35 : decode bb_Lo_bitCount 35 = .ok (.lload_n 0, 1) := by decide +kernel
theorem dd_Lo_bitCount_36 : decode bb_Lo_bitCount 36 = .ok (.bipush 8, 2) := by decide +kernel
theorem dd_Lo_bitCount_38 : decode bb_Lo_bitCount 38 = .ok (.lushr, 1) := by decide +kernel
theorem dd_Lo_bitCount_39 : decode bb_Lo_bitCount 39 = .ok (.ladd, 1) := by decide +kernel
theorem dd_Lo_bitCount_40 : decode bb_Lo_bitCount 40 = .ok (.lstore_n 0, 1) := by decide +kernel
theorem dd_Lo_bitCount_41 : decode bb_Lo_bitCount 41 = .ok (.lload_n 0, 1) := by decide +kernel
theorem dd_Lo_bitCount_42 : decode bb_Lo_bitCount 42 = .ok (.lload_n 0, 1) := by decide +kernel
theorem dd_Lo_bitCount_43 : decode bb_Lo_bitCount 43 = .ok (.bipush 16, 2) := by decide +kernel
theorem dd_Lo_bitCount_45 : decode bb_Lo_bitCount 45 = .ok (.lushr, 1) := by decide +kernel
theorem dd_Lo_bitCount_46 : decode bb_Lo_bitCount 46 = .ok (.ladd, 1) := by decide +kernel
theorem dd_Lo_bitCount_47 : decode bb_Lo_bitCount 47 = .ok (.lstore_n 0, 1) := by decide +kernel
theorem dd_Lo_bitCount_48 : decode bb_Lo_bitCount 48 = .ok (.lload_n 0, 1) := by decide +kernel
theorem dd_Lo_bitCount_49 : decode bb_Lo_bitCount 49 = .ok (.lload_n 0, 1) := by decide +kernel
theorem dd_Lo_bitCount_50 : decode bb_Lo_bitCount 50 = .ok (.bipush 32, 2) := by decide +kernel
theorem dd_Lo_bitCount_52 : decode bb_Lo_bitCount 52 = .ok (.lushr, 1) := by decide +kernel
theorem dd_Lo_bitCount_53 : decode bb_Lo_bitCount 53 = .ok (.ladd, 1) := by decide +kernel
theorem dd_Lo_bitCount_54 : decode bb_Lo_bitCount 54 = .ok (.lstore_n 0, 1) := by decide +kernel
theorem dd_Lo_bitCount_55 : decode bb_Lo_bitCount 55 = .ok (.lload_n 0, 1) := by decide +kernel
theorem dd_Lo_bitCount_56 : decode bb_Lo_bitCount 56 = .ok (.l2i, 1) := by decide +kernel
theorem dd_Lo_bitCount_57 : decode bb_Lo_bitCount 57 = .ok (.bipush 127, 2) := by decide +kernel
theorem dd_Lo_bitCount_59 : decode bb_Lo_bitCount 59 = .ok (.iand, 1) := by decide +kernel
theorem dd_Lo_bitCount_60 : decode bb_Lo_bitCount 60 = .ok (.ireturn, 1) := by decide +kernel
theorem dd_Rd_readSize_0 : decode bb_Rd_readSize 0 = .ok (.aload_n 1, 1) := by decide +kernel
theorem dd_Rd_readSize_1 : decode bb_Rd_readSize 1 = .ok (.aload_n 0, 1) := by decide +kernel
theorem dd_Rd_readSize_2 : decode bb_Rd_readSize 2 = .ok (.getfield 9, 3) := by decide +kernel
theorem dd_Rd_readSize_5 : decode bb_Rd_readSize 5 = .ok (.invokevirtual 34, 3) := by decide +kernel
theorem dd_Rd_readSize_8 : decode bb_Rd_readSize 8 = .ok (.istore_n 3, 1) := by decide +kernel
theorem dd_Rd_readSize_9 : decode bb_Rd_readSize 9 = .ok (.iload_n 3, 1) := by decide +kernel
theorem dd_Rd_readSize_10 : decode bb_Rd_readSize 10 = .ok (.ifCond .eq 8, 3) := by decide +kernel
theorem dd_Rd_readSize_13 : decode bb_Rd_readSize 13 = .ok (.iload_n 3, 1) := by decide +kernel
theorem dd_Rd_readSize_14 : decode bb_Rd_readSize 14 = .ok (.iload_n 2, 1) := by decide +kernel
theorem dd_Rd_readSize_15 : decode bb_Rd_readSize 15 = .ok (.if_icmp .le 5, 3) := by decide +kernel
theorem dd_Rd_readSize_18 : decode bb_Rd_readSize 18 = .ok (.iconst 0, 1) := by decide +kernel
theorem dd_Rd_readSize_19 : decode bb_Rd_readSize 19 = .ok (.ireturn, 1) := by decide +kernel
theorem dd_Rd_readSize_20 : decode bb_Rd_readSize 20 = .ok (.aload_n 0, 1) := by decide +kernel
theorem dd_Rd_readSize_21 : decode bb_Rd_readSize 21 = .ok (.dup, 1) := by decide +kernel
theorem dd_Rd_readSize_22 : decode bb_Rd_readSize 22 = .ok (.getfield 9, 3) := by decide +kernel
theorem dd_Rd_readSize_25 : decode bb_Rd_readSize 25 = .ok (.iconst 1, 1) := by decide +kernel
theorem dd_Rd_readSize_26 : decode bb_Rd_readSize 26 = .ok (.iadd, 1) := by decide +kernel
theorem dd_Rd_readSize_27 : decode bb_Rd_readSize 27 = .ok (.putfield 9, 3) := by decide +kernel
theorem dd_Rd_readSize_30 : decode bb_Rd_readSize 30 = .ok (.iload_n 3, 1) := by decide +kernel
theorem dd_Rd_readSize_31 : decode bb_Rd_readSize 31 = .ok (.ireturn, 1) := by decide +kernel
theorem dd_Rd_readFolded_0 : decode bb_Rd_readFolded 0 = .ok (.aload_n 0, 1) := by decide +kernel
theorem dd_Rd_readFolded_1 : decode bb_Rd_readFolded 1 = .ok (.lconst 0, 1) := by decide +kernel
theorem dd_Rd_readFolded_2 : decode bb_Rd_readFolded 2 = .ok (.putfield 52, 3) := by decide +kernel
theorem dd_Rd_readFolded_5 : decode bb_Rd_readFolded 5 = .ok (.iconst 0, 1) := by decide +kernel
theorem dd_Rd_readFolded_6 : decode bb_Rd_readFolded 6 = .ok (.istore_n 3, 1) := by decide +kernel
theorem dd_Rd_readFolded_7 : decode bb_Rd_readFolded 7 = .ok (.iload_n 3, 1) := by decide +kernel
theorem dd_Rd_readFolded_8 : decode bb_Rd_readFolded 8 = .ok (.bipush 63, 2) := by decide +kernel
theorem dd_Rd_readFolded_10 : decode bb_Rd_readFolded 10 = .ok (.if_icmp .gt 101, 3) := by decide +kernel
theorem dd_Rd_readFolded_13 : decode bb_Rd_readFolded 13 = .ok (.aload_n 0, 1) := by decide +kernel
theorem dd_Rd_readFolded_14 : decode bb_Rd_readFolded 14 = .ok (.getfield 9, 3) := by decide +kernel
theorem dd_Rd_readFolded_17 : decode bb_Rd_readFolded 17 = .ok (.aload_n 1, 1) := by decide +kernel
theorem dd_Rd_readFolded_18 : decode bb_Rd_readFolded 18 = .ok (.invokevirtual 20, 3) := by decide +kernel
theorem dd_Rd_readFolded_21 : decode bb_Rd_readFolded 21 = .ok (.if_icmp .lt 5, 3) := by decide +kernel
theorem dd_Rd_readFolded_24 : decode bb_Rd_readFolded 24 = .ok (.iconst 0, 1) := by decide +kernel
theorem dd_Rd_readFolded_25 : decode bb_Rd_readFolded 25 = .ok (.ireturn, 1) := by decide +kernel
theorem dd_Rd_readFolded_26 : decode bb_Rd_readFolded 26 = .ok (.aload_n 1, 1) := by decide +kernel
theorem dd_Rd_readFolded_27 : decode bb_Rd_readFolded 27 = .ok (.aload_n 0, 1) := by decide +kernel
theorem dd_Rd_readFolded_28 : decode bb_Rd_readFolded 28 = .ok (.getfield 9, 3) := by decide +kernel
theorem dd_Rd_readFolded_31 : decode bb_Rd_readFolded 31 = .ok (.invokevirtual 34, 3) := by decide +kernel
theorem dd_Rd_readFolded_34 : decode bb_Rd_readFolded 34 = .ok (.istore 4, 2) := by decide +kernel
theorem dd_Rd_readFolded_36 : decode bb_Rd_readFolded 36 = .ok (.iload_n 3, 1) := by decide +kernel
theorem dd_Rd_readFolded_37 : decode bb_Rd_readFolded 37 = .ok (.bipush 63, 2) := by decide +kernel
theorem dd_Rd_readFolded_39 : decode bb_Rd_readFolded 39 = .ok (.if_icmp .ne 11, 3) := by decide +kernel
theorem dd_Rd_readFolded_42 : decode bb_Rd_readFolded 42 = .ok (.iload 4, 2) := by decide +kernel
theorem dd_Rd_readFolded_44 : decode bb_Rd_readFolded 44 = .ok (.iconst 1, 1) := by decide +kernel
theorem dd_Rd_readFolded_45 : decode bb_Rd_readFolded 45 = .ok (.if_icmp .le 5, 3) := by decide +kernel
theorem dd_Rd_readFolded_48 : decode bb_Rd_readFolded 48 = .ok (.iconst 0, 1) := by decide +kernel
theorem dd_Rd_readFolded_49 : decode bb_Rd_readFolded 49 = .ok (.ireturn, 1) := by decide +kernel
theorem dd_Rd_readFolded_50 : decode bb_Rd_readFolded 50 = .ok (.aload_n 0, 1) := by decide +kernel
theorem dd_Rd_readFolded_51 : decode bb_Rd_readFolded 51 = .ok (.dup, 1) := by decide +kernel
theorem dd_Rd_readFolded_52 : decode bb_Rd_readFolded 52 = .ok (.getfield 52, 3) := by decide +kernel
theorem dd_Rd_readFolded_55 : decode bb_Rd_readFolded 55 = .ok (.iload 4, 2) := by decide +kernel
theorem dd_Rd_readFolded_57 : decode bb_Rd_readFolded 57 = .ok (.bipush 127, 2) := by decide +kernel
theorem dd_Rd_readFolded_59 : decode bb_Rd_readFolded 59 = .ok (.iand, 1) := by decide +kernel
theorem dd_Rd_readFolded_60 : decode bb_Rd_readFolded 60 = .ok (.i2l, 1) := by decide +kernel
theorem dd_Rd_readFolded_61 : decode bb_Rd_readFolded 61 = .ok (.iload_n 3, 1) := by decide +kernel
theorem dd_Rd_readFolded_62 : decode bb_Rd_readFolded 62 = .ok (.lshl, 1) := by decide +kernel
theorem dd_Rd_readFolded_63 : decode bb_Rd_readFolded 63 = .ok (.lor, 1) := by decide +kernel
theorem dd_Rd_readFolded_64 : decode bb_Rd_readFolded 64 = .ok (.putfield 52, 3) := by decide +kernel
theorem dd_Rd_readFolded_67 : decode bb_Rd_readFolded 67 = .ok (.iload 4, 2) := by decide +kernel
theorem dd_Rd_readFolded_69 : decode bb_Rd_readFolded 69 = .ok (.sipush 128, 3) := by decide +kernel
theorem dd_Rd_readFolded_72 : decode bb_Rd_readFolded 72 = .ok (.if_icmp .ge 23, 3) := by decide +kernel
theorem dd_Rd_readFolded_75 : decode bb_Rd_readFolded 75 = .ok (.aload_n 0, 1) := by decide +kernel
theorem dd_Rd_readFolded_76 : decode bb_Rd_readFolded 76 = .ok (.iload 4, 2) := by decide +kernel
theorem dd_Rd_readFolded_78 : decode bb_Rd_readFolded 78 = .ok (.ifCond .ne 11, 3) := by decide +kernel
theorem dd_Rd_readFolded_81 : decode bb_Rd_readFolded 81 = .ok (.iload_n 3, 1) := by decide +kernel
theorem dd_Rd_readFolded_82 : decode bb_Rd_readFolded 82 = .ok (.ifCond .le 7, 3) := by decide +kernel
theorem dd_Rd_readFolded_85 : decode bb_Rd_readFolded 85 = .ok (.iconst 1, 1) := by decide +kernel
theorem dd_Rd_readFolded_86 : decode bb_Rd_readFolded 86 = .ok (.goto 4, 3) := by decide +kernel
theorem dd_Rd_readFolded_89 : decode bb_Rd_readFolded 89 = .ok (.iconst 0, 1) := by decide +kernel
theorem dd_Rd_readFolded_90 : decode bb_Rd_readFolded 90 = .ok (.iload_n 2, 1) := by decide +kernel
theorem dd_Rd_readFolded_91 : decode bb_Rd_readFolded 91 = .ok (.invokevirtual 60, 3) := by decide +kernel
theorem dd_Rd_readFolded_94 : decode bb_Rd_readFolded 94 = .ok (.ireturn, 1) := by decide +kernel
theorem dd_Rd_readFolded_95 : decode bb_Rd_readFolded 95 = .ok (.aload_n 0, 1) := by decide +kernel
theorem dd_Rd_readFolded_96 : decode bb_Rd_readFolded 96 = .ok (.dup, 1) := by decide +kernel
theorem dd_Rd_readFolded_97 : decode bb_Rd_readFolded 97 = .ok (.getfield 9, 3) := by decide +kernel
theorem dd_Rd_readFolded_100 : decode bb_Rd_readFolded 100 = .ok (.iconst 1, 1) := by decide +kernel
theorem dd_Rd_readFolded_101 : decode bb_Rd_readFolded 101 = .ok (.iadd, 1) := by decide +kernel
theorem dd_Rd_readFolded_102 : decode bb_Rd_readFolded 102 = .ok (.putfield 9, 3) := by decide +kernel
theorem dd_Rd_readFolded_105 : decode bb_Rd_readFolded 105 = .ok (.iinc 3 7, 3) := by decide +kernel
theorem dd_Rd_readFolded_108 : decode bb_Rd_readFolded 108 = .ok (.goto (-101), 3) := by decide +kernel
theorem dd_Rd_readFolded_111 : decode bb_Rd_readFolded 111 = .ok (.iconst 0, 1) := by decide +kernel
theorem dd_Rd_readFolded_112 : decode bb_Rd_readFolded 112 = .ok (.ireturn, 1) := by decide +kernel
theorem dd_Rd_endFolded_0 : decode bb_Rd_endFolded 0 = .ok (.iload_n 1, 1) := by decide +kernel
theorem dd_Rd_endFolded_1 : decode bb_Rd_endFolded 1 = .ok (.ifCond .ne 16, 3) := by decide +kernel
theorem dd_Rd_endFolded_4 : decode bb_Rd_endFolded 4 = .ok (.aload_n 0, 1) := by decide +kernel
theorem dd_Rd_endFolded_5 : decode bb_Rd_endFolded 5 = .ok (.getfield 52, 3) := by decide +kernel
theorem dd_Rd_endFolded_8 : decode bb_Rd_endFolded 8 = .ok (.lconst 0, 1) := by decide +kernel
theorem dd_Rd_endFolded_9 : decode bb_Rd_endFolded 9 = .ok (.lcmp, 1) := by decide +kernel
theorem dd_Rd_endFolded_10 : decode bb_Rd_endFolded 10 = .ok (.ifCond .ne 9, 3) := by decide +kernel
theorem dd_Rd_endFolded_13 : decode bb_Rd_endFolded 13 = .ok (.iload_n 2, 1) := by decide +kernel
theorem dd_Rd_endFolded_14 : decode bb_Rd_endFolded 14 = .ok (.ifCond .ne 5, 3) := by decide +kernel
theorem dd_Rd_endFolded_17 : decode bb_Rd_endFolded 17 = .ok (.iconst 0, 1) := by decide +kernel
theorem dd_Rd_endFolded_18 : decode bb_Rd_endFolded 18 = .ok (.ireturn, 1) := by decide +kernel
theorem dd_Rd_endFolded_19 : decode bb_Rd_endFolded 19 = .ok (.aload_n 0, 1) := by decide +kernel
theorem dd_Rd_endFolded_20 : decode bb_Rd_endFolded 20 = .ok (.dup, 1) := by decide +kernel
theorem dd_Rd_endFolded_21 : decode bb_Rd_endFolded 21 = .ok (.getfield 9, 3) := by decide +kernel
theorem dd_Rd_endFolded_24 : decode bb_Rd_endFolded 24 = .ok (.iconst 1, 1) := by decide +kernel
theorem dd_Rd_endFolded_25 : decode bb_Rd_endFolded 25 = .ok (.iadd, 1) := by decide +kernel
theorem dd_Rd_endFolded_26 : decode bb_Rd_endFolded 26 = .ok (.putfield 9, 3) := by decide +kernel
theorem dd_Rd_endFolded_29 : decode bb_Rd_endFolded 29 = .ok (.iconst 1, 1) := by decide +kernel
theorem dd_Rd_endFolded_30 : decode bb_Rd_endFolded 30 = .ok (.ireturn, 1) := by decide +kernel
theorem dd_Rd_at_0 : decode bb_Rd_at 0 = .ok (.aload_n 0, 1) := by decide +kernel
theorem dd_Rd_at_1 : decode bb_Rd_at 1 = .ok (.getfield 9, 3) := by decide +kernel
theorem dd_Rd_at_4 : decode bb_Rd_at 4 = .ok (.ireturn, 1) := by decide +kernel
theorem dd_Cl_many_0 : decode bb_Cl_many 0 = .ok (.aload_n 0, 1) := by decide +kernel
theorem dd_Cl_many_1 : decode bb_Cl_many 1 = .ok (.getfield 15, 3) := by decide +kernel
theorem dd_Cl_many_4 : decode bb_Cl_many 4 = .ok (.invokestatic 21, 3) := by decide +kernel
theorem dd_Cl_many_7 : decode bb_Cl_many 7 = .ok (.ireturn, 1) := by decide +kernel
