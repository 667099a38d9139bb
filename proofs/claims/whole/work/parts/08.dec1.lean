theorem dX0_freeWords_56 : decode cX0_freeWords 56 = .ok (.lreturn, 1) := by decide +kernel
theorem dX0_wordsOf_0 : decode cX0_wordsOf 0 = .ok (.aload_n 0, 1) := by decide +kernel
theorem dX0_wordsOf_1 : decode cX0_wordsOf 1 = .ok (.getfield 20, 3) := by decide +kernel
theorem dX0_wordsOf_4 : decode cX0_wordsOf 4 = .ok (.lload_n 1, 1) := by decide +kernel
theorem dX0_wordsOf_5 : decode cX0_wordsOf 5 = .ok (.invokestatic 87, 3) := by decide +kernel
theorem dX0_wordsOf_8 : decode cX0_wordsOf 8 = .ok (.isub, 1) := by decide +kernel
theorem dX0_wordsOf_9 : decode cX0_wordsOf 9 = .ok (.istore_n 3, 1) := by decide +kernel
theorem dX0_wordsOf_10 : decode cX0_wordsOf 10 = .ok (.iload_n 3, 1) := by decide +kernel
theorem dX0_wordsOf_11 : decode cX0_wordsOf 11 = .ok (.bipush 64, 2) := by decide +kernel
theorem dX0_wordsOf_13 : decode cX0_wordsOf 13 = .ok (.if_icmp .lt 7, 3) := by decide +kernel
theorem dX0_wordsOf_16 : decode cX0_wordsOf 16 = .ok (.lconst 0, 1) := by decide +kernel
theorem dX0_wordsOf_17 : decode cX0_wordsOf 17 = .ok (.goto 6, 3) := by decide +kernel
theorem dX0_wordsOf_20 : decode cX0_wordsOf 20 = .ok (.lconst 1, 1) := by decide +kernel
theorem dX0_wordsOf_21 : decode cX0_wordsOf 21 = .ok (.iload_n 3, 1) := by decide +kernel
theorem dX0_wordsOf_22 : decode cX0_wordsOf 22 = .ok (.lshl, 1) := by decide +kernel
theorem dX0_wordsOf_23 : decode cX0_wordsOf 23 = .ok (.lreturn, 1) := by decide +kernel
theorem dL_next_0 : decode cL_next 0 = .ok (.aload_n 3, 1) := by decide +kernel
theorem dL_next_1 : decode cL_next 1 = .ok (.iconst 0, 1) := by decide +kernel
theorem dL_next_2 : decode cL_next 2 = .ok (.aload_n 0, 1) := by decide +kernel
theorem dL_next_3 : decode cL_next 3 = .ok (.lload_n 1, 1) := by decide +kernel
theorem dL_next_4 : decode cL_next 4 = .ok (.invokevirtual 37, 3) := by decide +kernel
theorem dL_next_7 : decode cL_next 7 = .ok (.lastore, 1) := by decide +kernel
theorem dL_next_8 : decode cL_next 8 = .ok (.goto 7, 3) := by decide +kernel
theorem dL_next_11 : decode cL_next 11 = .ok (.astore 4, 2) := by decide +kernel
theorem dL_next_13 : decode cL_next 13 = .ok (.iconst 1, 1) := by decide +kernel
theorem dL_next_14 : decode cL_next 14 = .ok (.ireturn, 1) := by decide +kernel
theorem dL_next_15 : decode cL_next 15 = .ok (.iconst 0, 1) := by decide +kernel
theorem dL_next_16 : decode cL_next 16 = .ok (.ireturn, 1) := by decide +kernel
theorem dX0_next_0 : decode cX0_next 0 = .ok (.lload_n 1, 1) := by decide +kernel
theorem dX0_next_1 : decode cX0_next 1 = .ok (.aload_n 0, 1) := by decide +kernel
theorem dX0_next_2 : decode cX0_next 2 = .ok (.getfield 27, 3) := by decide +kernel
theorem dX0_next_5 : decode cX0_next 5 = .ok (.land, 1) := by decide +kernel
theorem dX0_next_6 : decode cX0_next 6 = .ok (.lstore_n 3, 1) := by decide +kernel
theorem dX0_next_7 : decode cX0_next 7 = .ok (.aload_n 0, 1) := by decide +kernel
theorem dX0_next_8 : decode cX0_next 8 = .ok (.aload_n 0, 1) := by decide +kernel
theorem dX0_next_9 : decode cX0_next 9 = .ok (.getfield 27, 3) := by decide +kernel
theorem dX0_next_12 : decode cX0_next 12 = .ok (.lload_n 3, 1) := by decide +kernel
theorem dX0_next_13 : decode cX0_next 13 = .ok (.invokevirtual 66, 3) := by decide +kernel
theorem dX0_next_16 : decode cX0_next 16 = .ok (.iconst (-1), 1) := by decide +kernel
theorem dX0_next_17 : decode cX0_next 17 = .ok (.if_icmp .ne 5, 3) := by decide +kernel
theorem dX0_next_20 : decode cX0_next 20 = .ok (.lload_n 3, 1) := by decide +kernel
theorem dX0_next_21 : decode cX0_next 21 = .ok (.lreturn, 1) := by decide +kernel
theorem dX0_next_22 : decode cX0_next 22 = .ok (.iconst 0, 1) := by decide +kernel
theorem dX0_next_23 : decode cX0_next 23 = .ok (.istore 5, 2) := by decide +kernel
theorem dX0_next_25 : decode cX0_next 25 = .ok (.iload 5, 2) := by decide +kernel
theorem dX0_next_27 : decode cX0_next 27 = .ok (.aload_n 0, 1) := by decide +kernel
theorem dX0_next_28 : decode cX0_next 28 = .ok (.getfield 20, 3) := by decide +kernel
theorem dX0_next_31 : decode cX0_next 31 = .ok (.if_icmp .ge 61, 3) := by decide +kernel
theorem dX0_next_34 : decode cX0_next 34 = .ok (.lload_n 3, 1) := by decide +kernel
theorem dX0_next_35 : decode cX0_next 35 = .ok (.lconst 1, 1) := by decide +kernel
theorem dX0_next_36 : decode cX0_next 36 = .ok (.iload 5, 2) := by decide +kernel
theorem dX0_next_38 : decode cX0_next 38 = .ok (.lshl, 1) := by decide +kernel
theorem dX0_next_39 : decode cX0_next 39 = .ok (.lor, 1) := by decide +kernel
theorem dX0_next_40 : decode cX0_next 40 = .ok (.aload_n 0, 1) := by decide +kernel
theorem dX0_next_41 : decode cX0_next 41 = .ok (.iload 5, 2) := by decide +kernel
theorem dX0_next_43 : decode cX0_next 43 = .ok (.invokevirtual 73, 3) := by decide +kernel
theorem dX0_next_46 : decode cX0_next 46 = .ok (.land, 1) := by decide +kernel
theorem dX0_next_47 : decode cX0_next 47 = .ok (.lstore 6, 2) := by decide +kernel
theorem dX0_next_49 : decode cX0_next 49 = .ok (.lload_n 3, 1) := by decide +kernel
theorem dX0_next_50 : decode cX0_next 50 = .ok (.iload 5, 2) := by decide +kernel
theorem dX0_next_52 : decode cX0_next 52 = .ok (.lushr, 1) := by decide +kernel
theorem dX0_next_53 : decode cX0_next 53 = .ok (.lconst 1, 1) := by decide +kernel
theorem dX0_next_54 : decode cX0_next 54 = .ok (.land, 1) := by decide +kernel
theorem dX0_next_55 : decode cX0_next 55 = .ok (.lconst 0, 1) := by decide +kernel
theorem dX0_next_56 : decode cX0_next 56 = .ok (.lcmp, 1) := by decide +kernel
theorem dX0_next_57 : decode cX0_next 57 = .ok (.ifCond .ne 29, 3) := by decide +kernel
theorem dX0_next_60 : decode cX0_next 60 = .ok (.aload_n 0, 1) := by decide +kernel
theorem dX0_next_61 : decode cX0_next 61 = .ok (.aload_n 0, 1) := by decide +kernel
theorem dX0_next_62 : decode cX0_next 62 = .ok (.iload 5, 2) := by decide +kernel
theorem dX0_next_64 : decode cX0_next 64 = .ok (.invokevirtual 73, 3) := by decide +kernel
theorem dX0_next_67 : decode cX0_next 67 = .ok (.lload 6, 2) := by decide +kernel
theorem dX0_next_69 : decode cX0_next 69 = .ok (.invokevirtual 69, 3) := by decide +kernel
theorem dX0_next_72 : decode cX0_next 72 = .ok (.lconst 0, 1) := by decide +kernel
theorem dX0_next_73 : decode cX0_next 73 = .ok (.lcmp, 1) := by decide +kernel
theorem dX0_next_74 : decode cX0_next 74 = .ok (.ifCond .eq 12, 3) := by decide +kernel
theorem dX0_next_77 : decode cX0_next 77 = .ok (.aload_n 0, 1) := by decide +kernel
theorem dX0_next_78 : decode cX0_next 78 = .ok (.iload 5, 2) := by decide +kernel
theorem dX0_next_80 : decode cX0_next 80 = .ok (.lload 6, 2) := by decide +kernel
theorem dX0_next_82 : decode cX0_next 82 = .ok (.invokevirtual 76, 3) := by decide +kernel
theorem dX0_next_85 : decode cX0_next 85 = .ok (.lreturn, 1) := by decide +kernel
theorem dX0_next_86 : decode cX0_next 86 = .ok (.iinc 5 1, 3) := by decide +kernel
theorem dX0_next_89 : decode cX0_next 89 = .ok (.goto (-64), 3) := by decide +kernel
theorem dX0_next_92 : decode cX0_next 92 = .ok (.new 80, 3) := by decide +kernel
theorem dX0_next_95 : decode cX0_next 95 = .ok (.dup, 1) := by decide +kernel
theorem dX0_next_96 : decode cX0_next 96 = .ok (.ldc 82, 2) := by decide +kernel
theorem dX0_next_98 : decode cX0_next 98 = .ok (.invokespecial 84, 3) := by decide +kernel
theorem dX0_next_101 : decode cX0_next 101 = .ok (.athrow, 1) := by decide +kernel
theorem dX0_bitsFrom_0 : decode cX0_bitsFrom 0 = .ok (.aload_n 0, 1) := by decide +kernel
theorem dX0_bitsFrom_1 : decode cX0_bitsFrom 1 = .ok (.getfield 27, 3) := by decide +kernel
theorem dX0_bitsFrom_4 : decode cX0_bitsFrom 4 = .ok (.ldc2_w 93, 3) := by decide +kernel
theorem dX0_bitsFrom_7 : decode cX0_bitsFrom 7 = .ok (.iload_n 1, 1) := by decide +kernel
theorem dX0_bitsFrom_8 : decode cX0_bitsFrom 8 = .ok (.lshl, 1) := by decide +kernel
theorem dX0_bitsFrom_9 : decode cX0_bitsFrom 9 = .ok (.land, 1) := by decide +kernel
theorem dX0_bitsFrom_10 : decode cX0_bitsFrom 10 = .ok (.lreturn, 1) := by decide +kernel
theorem dX0_leastFree_0 : decode cX0_leastFree 0 = .ok (.lload_n 2, 1) := by decide +kernel
theorem dX0_leastFree_1 : decode cX0_leastFree 1 = .ok (.lstore 4, 2) := by decide +kernel
theorem dX0_leastFree_3 : decode cX0_leastFree 3 = .ok (.iload_n 1, 1) := by decide +kernel
theorem dX0_leastFree_4 : decode cX0_leastFree 4 = .ok (.iconst 1, 1) := by decide +kernel
theorem dX0_leastFree_5 : decode cX0_leastFree 5 = .ok (.isub, 1) := by decide +kernel
theorem dX0_leastFree_6 : decode cX0_leastFree 6 = .ok (.istore 6, 2) := by decide +kernel
theorem dX0_leastFree_8 : decode cX0_leastFree 8 = .ok (.iload 6, 2) := by decide +kernel
theorem dX0_leastFree_10 : decode cX0_leastFree 10 = .ok (.ifCond .lt 35, 3) := by decide +kernel
theorem dX0_leastFree_13 : decode cX0_leastFree 13 = .ok (.aload_n 0, 1) := by decide +kernel
theorem dX0_leastFree_14 : decode cX0_leastFree 14 = .ok (.aload_n 0, 1) := by decide +kernel
theorem dX0_leastFree_15 : decode cX0_leastFree 15 = .ok (.iload 6, 2) := by decide +kernel
theorem dX0_leastFree_17 : decode cX0_leastFree 17 = .ok (.invokevirtual 73, 3) := by decide +kernel
theorem dX0_leastFree_20 : decode cX0_leastFree 20 = .ok (.lload 4, 2) := by decide +kernel
theorem dX0_leastFree_22 : decode cX0_leastFree 22 = .ok (.invokevirtual 69, 3) := by decide +kernel
theorem dX0_leastFree_25 : decode cX0_leastFree 25 = .ok (.lconst 0, 1) := by decide +kernel
theorem dX0_leastFree_26 : decode cX0_leastFree 26 = .ok (.lcmp, 1) := by decide +kernel
theorem dX0_leastFree_27 : decode cX0_leastFree 27 = .ok (.ifCond .ne 12, 3) := by decide +kernel
theorem dX0_leastFree_30 : decode cX0_leastFree 30 = .ok (.lload 4, 2) := by decide +kernel
theorem dX0_leastFree_32 : decode cX0_leastFree 32 = .ok (.lconst 1, 1) := by decide +kernel
theorem dX0_leastFree_33 : decode cX0_leastFree 33 = .ok (.iload 6, 2) := by decide +kernel
theorem dX0_leastFree_35 : decode cX0_leastFree 35 = .ok (.lshl, 1) := by decide +kernel
theorem dX0_leastFree_36 : decode cX0_leastFree 36 = .ok (.lor, 1) := by decide +kernel
theorem dX0_leastFree_37 : decode cX0_leastFree 37 = .ok (.lstore 4, 2) := by decide +kernel
theorem dX0_leastFree_39 : decode cX0_leastFree 39 = .ok (.iinc 6 (-1), 3) := by decide +kernel
theorem dX0_leastFree_42 : decode cX0_leastFree 42 = .ok (.goto (-34), 3) := by decide +kernel
theorem dX0_leastFree_45 : decode cX0_leastFree 45 = .ok (.lload 4, 2) := by decide +kernel
theorem dX0_leastFree_47 : decode cX0_leastFree 47 = .ok (.lreturn, 1) := by decide +kernel
theorem dL_told_0 : decode cL_told 0 = .ok (.aload_n 3, 1) := by decide +kernel
theorem dL_told_1 : decode cL_told 1 = .ok (.iconst 0, 1) := by decide +kernel
theorem dL_told_2 : decode cL_told 2 = .ok (.aload_n 0, 1) := by decide +kernel
theorem dL_told_3 : decode cL_told 3 = .ok (.iload_n 1, 1) := by decide +kernel
theorem dL_told_4 : decode cL_told 4 = .ok (.iload_n 2, 1) := by decide +kernel
theorem dL_told_5 : decode cL_told 5 = .ok (.invokevirtual 41, 3) := by decide +kernel
theorem dL_told_8 : decode cL_told 8 = .ok (.lastore, 1) := by decide +kernel
theorem dL_told_9 : decode cL_told 9 = .ok (.goto 11, 3) := by decide +kernel
theorem dL_told_12 : decode cL_told 12 = .ok (.astore 4, 2) := by decide +kernel
theorem dL_told_14 : decode cL_told 14 = .ok (.iconst 1, 1) := by decide +kernel
theorem dL_told_15 : decode cL_told 15 = .ok (.ireturn, 1) := by decide +kernel
theorem dL_told_16 : decode cL_told 16 = .ok (.astore 4, 2) := by decide +kernel
theorem dL_told_18 : decode cL_told 18 = .ok (.iconst 2, 1) := by decide +kernel
theorem dL_told_19 : decode cL_told 19 = .ok (.ireturn, 1) := by decide +kernel
theorem dL_told_20 : decode cL_told 20 = .ok (.iconst 0, 1) := by decide +kernel
theorem dL_told_21 : decode cL_told 21 = .ok (.ireturn, 1) := by decide +kernel
theorem dX0_told_0 : decode cX0_told 0 = .ok (.iload_n 2, 1) := by decide +kernel
theorem dX0_told_1 : decode cX0_told 1 = .ok (.ifCond .lt 8, 3) := by decide +kernel
theorem dX0_told_4 : decode cX0_told 4 = .ok (.iload_n 2, 1) := by decide +kernel
theorem dX0_told_5 : decode cX0_told 5 = .ok (.iconst 2, 1) := by decide +kernel
theorem dX0_told_6 : decode cX0_told 6 = .ok (.if_icmp .le 13, 3) := by decide +kernel
theorem dX0_told_9 : decode cX0_told 9 = .ok (.new 37, 3) := by decide +kernel
theorem dX0_told_12 : decode cX0_told 12 = .ok (.dup, 1) := by decide +kernel
theorem dX0_told_13 : decode cX0_told 13 = .ok (.ldc 85, 2) := by decide +kernel
theorem dX0_told_15 : decode cX0_told 15 = .ok (.invokespecial 41, 3) := by decide +kernel
theorem dX0_told_18 : decode cX0_told 18 = .ok (.athrow, 1) := by decide +kernel
theorem dX0_told_19 : decode cX0_told 19 = .ok (.aload_n 0, 1) := by decide +kernel
theorem dX0_told_20 : decode cX0_told 20 = .ok (.iload_n 1, 1) := by decide +kernel
theorem dX0_told_21 : decode cX0_told 21 = .ok (.invokevirtual 58, 3) := by decide +kernel
theorem dX0_told_24 : decode cX0_told 24 = .ok (.iload_n 2, 1) := by decide +kernel
theorem dX0_told_25 : decode cX0_told 25 = .ok (.ifCond .ne 10, 3) := by decide +kernel
theorem dX0_told_28 : decode cX0_told 28 = .ok (.aload_n 0, 1) := by decide +kernel
theorem dX0_told_29 : decode cX0_told 29 = .ok (.getfield 9, 3) := by decide +kernel
theorem dX0_told_32 : decode cX0_told 32 = .ok (.iload_n 1, 1) := by decide +kernel
theorem dX0_told_33 : decode cX0_told 33 = .ok (.laload, 1) := by decide +kernel
theorem dX0_told_34 : decode cX0_told 34 = .ok (.lreturn, 1) := by decide +kernel
theorem dX0_told_35 : decode cX0_told 35 = .ok (.iload_n 2, 1) := by decide +kernel
theorem dX0_told_36 : decode cX0_told 36 = .ok (.iconst 1, 1) := by decide +kernel
theorem dX0_told_37 : decode cX0_told 37 = .ok (.if_icmp .ne 10, 3) := by decide +kernel
theorem dX0_told_40 : decode cX0_told 40 = .ok (.aload_n 0, 1) := by decide +kernel
theorem dX0_told_41 : decode cX0_told 41 = .ok (.getfield 13, 3) := by decide +kernel
theorem dX0_told_44 : decode cX0_told 44 = .ok (.iload_n 1, 1) := by decide +kernel
theorem dX0_told_45 : decode cX0_told 45 = .ok (.laload, 1) := by decide +kernel
theorem dX0_told_46 : decode cX0_told 46 = .ok (.lreturn, 1) := by decide +kernel
theorem dX0_told_47 : decode cX0_told 47 = .ok (.aload_n 0, 1) := by decide +kernel
theorem dX0_told_48 : decode cX0_told 48 = .ok (.getfield 20, 3) := by decide +kernel
theorem dX0_told_51 : decode cX0_told 51 = .ok (.aload_n 0, 1) := by decide +kernel
theorem dX0_told_52 : decode cX0_told 52 = .ok (.getfield 9, 3) := by decide +kernel
theorem dX0_told_55 : decode cX0_told 55 = .ok (.iload_n 1, 1) := by decide +kernel
theorem dX0_told_56 : decode cX0_told 56 = .ok (.laload, 1) := by decide +kernel
theorem dX0_told_57 : decode cX0_told 57 = .ok (.invokestatic 87, 3) := by decide +kernel
theorem dX0_told_60 : decode cX0_told 60 = .ok (.isub, 1) := by decide +kernel
theorem dX0_told_61 : decode cX0_told 61 = .ok (.i2l, 1) := by decide +kernel
theorem dX0_told_62 : decode cX0_told 62 = .ok (.lreturn, 1) := by decide +kernel
theorem dX1_init_0 : decode cX1_init 0 = .ok (.aload_n 0, 1) := by decide +kernel
theorem dX1_init_1 : decode cX1_init 1 = .ok (.invokespecial 1, 3) := by decide +kernel
theorem dX1_init_4 : decode cX1_init 4 = .ok (.aload_n 0, 1) := by decide +kernel
theorem dX1_init_5 : decode cX1_init 5 = .ok (.sipush 512, 3) := by decide +kernel
theorem dX1_init_8 : decode cX1_init 8 = .ok (.newarray .long, 2) := by decide +kernel
theorem dX1_init_10 : decode cX1_init 10 = .ok (.putfield 7, 3) := by decide +kernel
theorem dX1_init_13 : decode cX1_init 13 = .ok (.aload_n 0, 1) := by decide +kernel
theorem dX1_init_14 : decode cX1_init 14 = .ok (.sipush 512, 3) := by decide +kernel
theorem dX1_init_17 : decode cX1_init 17 = .ok (.newarray .long, 2) := by decide +kernel
theorem dX1_init_19 : decode cX1_init 19 = .ok (.putfield 13, 3) := by decide +kernel
theorem dX1_init_22 : decode cX1_init 22 = .ok (.aload_n 0, 1) := by decide +kernel
theorem dX1_init_23 : decode cX1_init 23 = .ok (.bipush 32, 2) := by decide +kernel
theorem dX1_init_25 : decode cX1_init 25 = .ok (.putfield 16, 3) := by decide +kernel
theorem dX1_init_28 : decode cX1_init 28 = .ok (.aload_n 0, 1) := by decide +kernel
theorem dX1_init_29 : decode cX1_init 29 = .ok (.iconst (-1), 1) := by decide +kernel
theorem dX1_init_30 : decode cX1_init 30 = .ok (.putfield 20, 3) := by decide +kernel
theorem dX1_init_33 : decode cX1_init 33 = .ok (.return_, 1) := by decide +kernel
theorem dX1_thrown_0 : decode cX1_thrown 0 = .ok (.aload_n 0, 1) := by decide +kernel
theorem dX1_thrown_1 : decode cX1_thrown 1 = .ok (.getfield 23, 3) := by decide +kernel
theorem dX1_thrown_4 : decode cX1_thrown 4 = .ok (.ireturn, 1) := by decide +kernel
theorem dX1_clear_0 : decode cX1_clear 0 = .ok (.aload_n 0, 1) := by decide +kernel
theorem dX1_clear_1 : decode cX1_clear 1 = .ok (.iconst 0, 1) := by decide +kernel
theorem dX1_clear_2 : decode cX1_clear 2 = .ok (.putfield 23, 3) := by decide +kernel
theorem dX1_clear_5 : decode cX1_clear 5 = .ok (.iload_n 1, 1) := by decide +kernel
theorem dX1_clear_6 : decode cX1_clear 6 = .ok (.iconst 1, 1) := by decide +kernel
theorem dX1_clear_7 : decode cX1_clear 7 = .ok (.if_icmp .lt 9, 3) := by decide +kernel
theorem dX1_clear_10 : decode cX1_clear 10 = .ok (.iload_n 1, 1) := by decide +kernel
theorem dX1_clear_11 : decode cX1_clear 11 = .ok (.bipush 64, 2) := by decide +kernel
theorem dX1_clear_13 : decode cX1_clear 13 = .ok (.if_icmp .le 12, 3) := by decide +kernel
theorem dX1_clear_16 : decode cX1_clear 16 = .ok (.aload_n 0, 1) := by decide +kernel
theorem dX1_clear_17 : decode cX1_clear 17 = .ok (.iconst 1, 1) := by decide +kernel
theorem dX1_clear_18 : decode cX1_clear 18 = .ok (.invokevirtual 39, 3) := by decide +kernel
theorem dX1_clear_21 : decode cX1_clear 21 = .ok (.pop, 1) := by decide +kernel
theorem dX1_clear_22 : decode cX1_clear 22 = .ok (.goto 13, 3) := by decide +kernel
theorem dX1_clear_25 : decode cX1_clear 25 = .ok (.aload_n 0, 1) := by decide +kernel
theorem dX1_clear_26 : decode cX1_clear 26 = .ok (.iconst 0, 1) := by decide +kernel
theorem dX1_clear_27 : decode cX1_clear 27 = .ok (.putfield 32, 3) := by decide +kernel
theorem dX1_clear_30 : decode cX1_clear 30 = .ok (.aload_n 0, 1) := by decide +kernel
theorem dX1_clear_31 : decode cX1_clear 31 = .ok (.iload_n 1, 1) := by decide +kernel
theorem dX1_clear_32 : decode cX1_clear 32 = .ok (.putfield 16, 3) := by decide +kernel
theorem dX1_clear_35 : decode cX1_clear 35 = .ok (.return_, 1) := by decide +kernel
theorem dX1_fail_0 : decode cX1_fail 0 = .ok (.aload_n 0, 1) := by decide +kernel
theorem dX1_fail_1 : decode cX1_fail 1 = .ok (.iload_n 1, 1) := by decide +kernel
theorem dX1_fail_2 : decode cX1_fail 2 = .ok (.putfield 23, 3) := by decide +kernel
theorem dX1_fail_5 : decode cX1_fail 5 = .ok (.iconst 0, 1) := by decide +kernel
theorem dX1_fail_6 : decode cX1_fail 6 = .ok (.ireturn, 1) := by decide +kernel
theorem dX1_add_0 : decode cX1_add 0 = .ok (.aload_n 0, 1) := by decide +kernel
theorem dX1_add_1 : decode cX1_add 1 = .ok (.iconst 0, 1) := by decide +kernel
theorem dX1_add_2 : decode cX1_add 2 = .ok (.putfield 23, 3) := by decide +kernel
theorem dX1_add_5 : decode cX1_add 5 = .ok (.aload_n 0, 1) := by decide +kernel
theorem dX1_add_6 : decode cX1_add 6 = .ok (.lload_n 1, 1) := by decide +kernel
theorem dX1_add_7 : decode cX1_add 7 = .ok (.lload_n 3, 1) := by decide +kernel
theorem dX1_add_8 : decode cX1_add 8 = .ok (.invokevirtual 43, 3) := by decide +kernel
theorem dX1_add_11 : decode cX1_add 11 = .ok (.ifCond .eq 9, 3) := by decide +kernel
theorem dX1_add_14 : decode cX1_add 14 = .ok (.aload_n 0, 1) := by decide +kernel
theorem dX1_add_15 : decode cX1_add 15 = .ok (.iconst 1, 1) := by decide +kernel
theorem dX1_add_16 : decode cX1_add 16 = .ok (.invokevirtual 39, 3) := by decide +kernel
theorem dX1_add_19 : decode cX1_add 19 = .ok (.ireturn, 1) := by decide +kernel
theorem dX1_add_20 : decode cX1_add 20 = .ok (.aload_n 0, 1) := by decide +kernel
theorem dX1_add_21 : decode cX1_add 21 = .ok (.getfield 32, 3) := by decide +kernel
theorem dX1_add_24 : decode cX1_add 24 = .ok (.sipush 512, 3) := by decide +kernel
theorem dX1_add_27 : decode cX1_add 27 = .ok (.if_icmp .ne 7, 3) := by decide +kernel
theorem dX1_add_30 : decode cX1_add 30 = .ok (.iconst (-1), 1) := by decide +kernel
theorem dX1_add_31 : decode cX1_add 31 = .ok (.goto 9, 3) := by decide +kernel
theorem dX1_add_34 : decode cX1_add 34 = .ok (.aload_n 0, 1) := by decide +kernel
theorem dX1_add_35 : decode cX1_add 35 = .ok (.lload_n 1, 1) := by decide +kernel
theorem dX1_add_36 : decode cX1_add 36 = .ok (.lload_n 3, 1) := by decide +kernel
theorem dX1_add_37 : decode cX1_add 37 = .ok (.invokevirtual 47, 3) := by decide +kernel
theorem dX1_add_40 : decode cX1_add 40 = .ok (.istore 5, 2) := by decide +kernel
theorem dX1_add_42 : decode cX1_add 42 = .ok (.aload_n 0, 1) := by decide +kernel
theorem dX1_add_43 : decode cX1_add 43 = .ok (.getfield 32, 3) := by decide +kernel
theorem dX1_add_46 : decode cX1_add 46 = .ok (.sipush 512, 3) := by decide +kernel
theorem dX1_add_49 : decode cX1_add 49 = .ok (.if_icmp .eq 8, 3) := by decide +kernel
theorem dX1_add_52 : decode cX1_add 52 = .ok (.iload 5, 2) := by decide +kernel
theorem dX1_add_54 : decode cX1_add 54 = .ok (.ifCond .lt 15, 3) := by decide +kernel
theorem dX1_add_57 : decode cX1_add 57 = .ok (.aload_n 0, 1) := by decide +kernel
theorem dX1_add_58 : decode cX1_add 58 = .ok (.iload 5, 2) := by decide +kernel
theorem dX1_add_60 : decode cX1_add 60 = .ok (.putfield 20, 3) := by decide +kernel
theorem dX1_add_63 : decode cX1_add 63 = .ok (.aload_n 0, 1) := by decide +kernel
theorem dX1_add_64 : decode cX1_add 64 = .ok (.iconst 2, 1) := by decide +kernel
theorem dX1_add_65 : decode cX1_add 65 = .ok (.invokevirtual 39, 3) := by decide +kernel
theorem dX1_add_68 : decode cX1_add 68 = .ok (.ireturn, 1) := by decide +kernel
theorem dX1_add_69 : decode cX1_add 69 = .ok (.aload_n 0, 1) := by decide +kernel
theorem dX1_add_70 : decode cX1_add 70 = .ok (.getfield 7, 3) := by decide +kernel
theorem dX1_add_73 : decode cX1_add 73 = .ok (.aload_n 0, 1) := by decide +kernel
theorem dX1_add_74 : decode cX1_add 74 = .ok (.getfield 32, 3) := by decide +kernel
theorem dX1_add_77 : decode cX1_add 77 = .ok (.lload_n 1, 1) := by decide +kernel
theorem dX1_add_78 : decode cX1_add 78 = .ok (.aload_n 0, 1) := by decide +kernel
theorem dX1_add_79 : decode cX1_add 79 = .ok (.invokevirtual 28, 3) := by decide +kernel
theorem dX1_add_82 : decode cX1_add 82 = .ok (.land, 1) := by decide +kernel
theorem dX1_add_83 : decode cX1_add 83 = .ok (.lastore, 1) := by decide +kernel
theorem dX1_add_84 : decode cX1_add 84 = .ok (.aload_n 0, 1) := by decide +kernel
theorem dX1_add_85 : decode cX1_add 85 = .ok (.getfield 13, 3) := by decide +kernel
theorem dX1_add_88 : decode cX1_add 88 = .ok (.aload_n 0, 1) := by decide +kernel
theorem dX1_add_89 : decode cX1_add 89 = .ok (.getfield 32, 3) := by decide +kernel
theorem dX1_add_92 : decode cX1_add 92 = .ok (.lload_n 3, 1) := by decide +kernel
theorem dX1_add_93 : decode cX1_add 93 = .ok (.aload_n 0, 1) := by decide +kernel
theorem dX1_add_94 : decode cX1_add 94 = .ok (.invokevirtual 28, 3) := by decide +kernel
theorem dX1_add_97 : decode cX1_add 97 = .ok (.land, 1) := by decide +kernel
theorem dX1_add_98 : decode cX1_add 98 = .ok (.lastore, 1) := by decide +kernel
theorem dX1_add_99 : decode cX1_add 99 = .ok (.aload_n 0, 1) := by decide +kernel
theorem dX1_add_100 : decode cX1_add 100 = .ok (.dup, 1) := by decide +kernel
theorem dX1_add_101 : decode cX1_add 101 = .ok (.getfield 32, 3) := by decide +kernel
theorem dX1_add_104 : decode cX1_add 104 = .ok (.iconst 1, 1) := by decide +kernel
theorem dX1_add_105 : decode cX1_add 105 = .ok (.iadd, 1) := by decide +kernel
theorem dX1_add_106 : decode cX1_add 106 = .ok (.putfield 32, 3) := by decide +kernel
theorem dX1_add_109 : decode cX1_add 109 = .ok (.aload_n 0, 1) := by decide +kernel
theorem dX1_add_110 : decode cX1_add 110 = .ok (.getfield 32, 3) := by decide +kernel
theorem dX1_add_113 : decode cX1_add 113 = .ok (.iconst 1, 1) := by decide +kernel
theorem dX1_add_114 : decode cX1_add 114 = .ok (.isub, 1) := by decide +kernel
theorem dX1_add_115 : decode cX1_add 115 = .ok (.ireturn, 1) := by decide +kernel
theorem dX1_wrong_0 : decode cX1_wrong 0 = .ok (.lload_n 3, 1) := by decide +kernel
theorem dX1_wrong_1 : decode cX1_wrong 1 = .ok (.lload_n 1, 1) := by decide +kernel
theorem dX1_wrong_2 : decode cX1_wrong 2 = .ok (.ldc2_w 26, 3) := by decide +kernel
theorem dX1_wrong_5 : decode cX1_wrong 5 = .ok (.lxor, 1) := by decide +kernel
theorem dX1_wrong_6 : decode cX1_wrong 6 = .ok (.land, 1) := by decide +kernel
theorem dX1_wrong_7 : decode cX1_wrong 7 = .ok (.aload_n 0, 1) := by decide +kernel
theorem dX1_wrong_8 : decode cX1_wrong 8 = .ok (.invokevirtual 28, 3) := by decide +kernel
theorem dX1_wrong_11 : decode cX1_wrong 11 = .ok (.land, 1) := by decide +kernel
theorem dX1_wrong_12 : decode cX1_wrong 12 = .ok (.lconst 0, 1) := by decide +kernel
theorem dX1_wrong_13 : decode cX1_wrong 13 = .ok (.lcmp, 1) := by decide +kernel
theorem dX1_wrong_14 : decode cX1_wrong 14 = .ok (.ifCond .eq 7, 3) := by decide +kernel
theorem dX1_wrong_17 : decode cX1_wrong 17 = .ok (.iconst 1, 1) := by decide +kernel
theorem dX1_wrong_18 : decode cX1_wrong 18 = .ok (.goto 4, 3) := by decide +kernel
theorem dX1_wrong_21 : decode cX1_wrong 21 = .ok (.iconst 0, 1) := by decide +kernel
theorem dX1_wrong_22 : decode cX1_wrong 22 = .ok (.ireturn, 1) := by decide +kernel
theorem dX1_mask_0 : decode cX1_mask 0 = .ok (.aload_n 0, 1) := by decide +kernel
theorem dX1_mask_1 : decode cX1_mask 1 = .ok (.getfield 16, 3) := by decide +kernel
theorem dX1_mask_4 : decode cX1_mask 4 = .ok (.bipush 64, 2) := by decide +kernel
theorem dX1_mask_6 : decode cX1_mask 6 = .ok (.if_icmp .ne 9, 3) := by decide +kernel
theorem dX1_mask_9 : decode cX1_mask 9 = .ok (.ldc2_w 26, 3) := by decide +kernel
theorem dX1_mask_12 : decode cX1_mask 12 = .ok (.goto 11, 3) := by decide +kernel
theorem dX1_mask_15 : decode cX1_mask 15 = .ok (.lconst 1, 1) := by decide +kernel
theorem dX1_mask_16 : decode cX1_mask 16 = .ok (.aload_n 0, 1) := by decide +kernel
theorem dX1_mask_17 : decode cX1_mask 17 = .ok (.getfield 16, 3) := by decide +kernel
theorem dX1_mask_20 : decode cX1_mask 20 = .ok (.lshl, 1) := by decide +kernel
theorem dX1_mask_21 : decode cX1_mask 21 = .ok (.lconst 1, 1) := by decide +kernel
theorem dX1_mask_22 : decode cX1_mask 22 = .ok (.lsub, 1) := by decide +kernel
theorem dX1_mask_23 : decode cX1_mask 23 = .ok (.lreturn, 1) := by decide +kernel
theorem dX1_first_0 : decode cX1_first 0 = .ok (.iconst 0, 1) := by decide +kernel
theorem dX1_first_1 : decode cX1_first 1 = .ok (.istore 5, 2) := by decide +kernel
theorem dX1_first_3 : decode cX1_first 3 = .ok (.iload 5, 2) := by decide +kernel
theorem dX1_first_5 : decode cX1_first 5 = .ok (.aload_n 0, 1) := by decide +kernel
theorem dX1_first_6 : decode cX1_first 6 = .ok (.getfield 32, 3) := by decide +kernel
theorem dX1_first_9 : decode cX1_first 9 = .ok (.if_icmp .ge 23, 3) := by decide +kernel
theorem dX1_first_12 : decode cX1_first 12 = .ok (.aload_n 0, 1) := by decide +kernel
theorem dX1_first_13 : decode cX1_first 13 = .ok (.iload 5, 2) := by decide +kernel
theorem dX1_first_15 : decode cX1_first 15 = .ok (.lload_n 1, 1) := by decide +kernel
theorem dX1_first_16 : decode cX1_first 16 = .ok (.lload_n 3, 1) := by decide +kernel
theorem dX1_first_17 : decode cX1_first 17 = .ok (.invokevirtual 35, 3) := by decide +kernel
theorem dX1_first_20 : decode cX1_first 20 = .ok (.ifCond .eq 6, 3) := by decide +kernel
theorem dX1_first_23 : decode cX1_first 23 = .ok (.iload 5, 2) := by decide +kernel
theorem dX1_first_25 : decode cX1_first 25 = .ok (.ireturn, 1) := by decide +kernel
theorem dX1_first_26 : decode cX1_first 26 = .ok (.iinc 5 1, 3) := by decide +kernel
theorem dX1_first_29 : decode cX1_first 29 = .ok (.goto (-26), 3) := by decide +kernel
theorem dX1_first_32 : decode cX1_first 32 = .ok (.iconst (-1), 1) := by decide +kernel
theorem dX1_first_33 : decode cX1_first 33 = .ok (.ireturn, 1) := by decide +kernel
theorem dX1_meet_0 : decode cX1_meet 0 = .ok (.aload_n 0, 1) := by decide +kernel
theorem dX1_meet_1 : decode cX1_meet 1 = .ok (.getfield 13, 3) := by decide +kernel
theorem dX1_meet_4 : decode cX1_meet 4 = .ok (.iload_n 1, 1) := by decide +kernel
theorem dX1_meet_5 : decode cX1_meet 5 = .ok (.laload, 1) := by decide +kernel
theorem dX1_meet_6 : decode cX1_meet 6 = .ok (.lload 4, 2) := by decide +kernel
theorem dX1_meet_8 : decode cX1_meet 8 = .ok (.lxor, 1) := by decide +kernel
theorem dX1_meet_9 : decode cX1_meet 9 = .ok (.aload_n 0, 1) := by decide +kernel
theorem dX1_meet_10 : decode cX1_meet 10 = .ok (.getfield 7, 3) := by decide +kernel
theorem dX1_meet_13 : decode cX1_meet 13 = .ok (.iload_n 1, 1) := by decide +kernel
theorem dX1_meet_14 : decode cX1_meet 14 = .ok (.laload, 1) := by decide +kernel
theorem dX1_meet_15 : decode cX1_meet 15 = .ok (.land, 1) := by decide +kernel
theorem dX1_meet_16 : decode cX1_meet 16 = .ok (.lload_n 2, 1) := by decide +kernel
theorem dX1_meet_17 : decode cX1_meet 17 = .ok (.land, 1) := by decide +kernel
theorem dX1_meet_18 : decode cX1_meet 18 = .ok (.aload_n 0, 1) := by decide +kernel
theorem dX1_meet_19 : decode cX1_meet 19 = .ok (.invokevirtual 28, 3) := by decide +kernel
theorem dX1_meet_22 : decode cX1_meet 22 = .ok (.land, 1) := by decide +kernel
theorem dX1_meet_23 : decode cX1_meet 23 = .ok (.lconst 0, 1) := by decide +kernel
theorem dX1_meet_24 : decode cX1_meet 24 = .ok (.lcmp, 1) := by decide +kernel
theorem dX1_meet_25 : decode cX1_meet 25 = .ok (.ifCond .ne 7, 3) := by decide +kernel
theorem dX1_meet_28 : decode cX1_meet 28 = .ok (.iconst 1, 1) := by decide +kernel
theorem dX1_meet_29 : decode cX1_meet 29 = .ok (.goto 4, 3) := by decide +kernel
theorem dX1_meet_32 : decode cX1_meet 32 = .ok (.iconst 0, 1) := by decide +kernel
theorem dX1_meet_33 : decode cX1_meet 33 = .ok (.ireturn, 1) := by decide +kernel
theorem dX1_signs_0 : decode cX1_signs 0 = .ok (.aload_n 0, 1) := by decide +kernel
theorem dX1_signs_1 : decode cX1_signs 1 = .ok (.iconst 0, 1) := by decide +kernel
theorem dX1_signs_2 : decode cX1_signs 2 = .ok (.putfield 23, 3) := by decide +kernel
theorem dX1_signs_5 : decode cX1_signs 5 = .ok (.lload_n 1, 1) := by decide +kernel
theorem dX1_signs_6 : decode cX1_signs 6 = .ok (.lconst 0, 1) := by decide +kernel
theorem dX1_signs_7 : decode cX1_signs 7 = .ok (.lcmp, 1) := by decide +kernel
theorem dX1_signs_8 : decode cX1_signs 8 = .ok (.ifCond .ge 9, 3) := by decide +kernel
theorem dX1_signs_11 : decode cX1_signs 11 = .ok (.aload_n 0, 1) := by decide +kernel
theorem dX1_signs_12 : decode cX1_signs 12 = .ok (.iconst 1, 1) := by decide +kernel
theorem dX1_signs_13 : decode cX1_signs 13 = .ok (.invokevirtual 39, 3) := by decide +kernel
theorem dX1_signs_16 : decode cX1_signs 16 = .ok (.ireturn, 1) := by decide +kernel
theorem dX1_signs_17 : decode cX1_signs 17 = .ok (.lconst 0, 1) := by decide +kernel
theorem dX1_signs_18 : decode cX1_signs 18 = .ok (.lstore_n 3, 1) := by decide +kernel
theorem dX1_signs_19 : decode cX1_signs 19 = .ok (.lconst 0, 1) := by decide +kernel
theorem dX1_signs_20 : decode cX1_signs 20 = .ok (.lstore 5, 2) := by decide +kernel
theorem dX1_signs_22 : decode cX1_signs 22 = .ok (.lload_n 1, 1) := by decide +kernel
theorem dX1_signs_23 : decode cX1_signs 23 = .ok (.lstore 7, 2) := by decide +kernel
theorem dX1_signs_25 : decode cX1_signs 25 = .ok (.iconst 0, 1) := by decide +kernel
theorem dX1_signs_26 : decode cX1_signs 26 = .ok (.istore 9, 2) := by decide +kernel
theorem dX1_signs_28 : decode cX1_signs 28 = .ok (.iload 9, 2) := by decide +kernel
theorem dX1_signs_30 : decode cX1_signs 30 = .ok (.bipush 40, 2) := by decide +kernel
theorem dX1_signs_32 : decode cX1_signs 32 = .ok (.if_icmp .ge 66, 3) := by decide +kernel
theorem dX1_signs_35 : decode cX1_signs 35 = .ok (.iload 9, 2) := by decide +kernel
theorem dX1_signs_37 : decode cX1_signs 37 = .ok (.aload_n 0, 1) := by decide +kernel
theorem dX1_signs_38 : decode cX1_signs 38 = .ok (.getfield 16, 3) := by decide +kernel
theorem dX1_signs_41 : decode cX1_signs 41 = .ok (.if_icmp .ge 57, 3) := by decide +kernel
theorem dX1_signs_44 : decode cX1_signs 44 = .ok (.lload 7, 2) := by decide +kernel
theorem dX1_signs_46 : decode cX1_signs 46 = .ok (.ldc2_w 51, 3) := by decide +kernel
theorem dX1_signs_49 : decode cX1_signs 49 = .ok (.lrem, 1) := by decide +kernel
theorem dX1_signs_50 : decode cX1_signs 50 = .ok (.lstore 10, 2) := by decide +kernel
theorem dX1_signs_52 : decode cX1_signs 52 = .ok (.lload 7, 2) := by decide +kernel
theorem dX1_signs_54 : decode cX1_signs 54 = .ok (.ldc2_w 51, 3) := by decide +kernel
theorem dX1_signs_57 : decode cX1_signs 57 = .ok (.ldiv, 1) := by decide +kernel
theorem dX1_signs_58 : decode cX1_signs 58 = .ok (.lstore 7, 2) := by decide +kernel
theorem dX1_signs_60 : decode cX1_signs 60 = .ok (.lload 10, 2) := by decide +kernel
theorem dX1_signs_62 : decode cX1_signs 62 = .ok (.ldc2_w 53, 3) := by decide +kernel
theorem dX1_signs_65 : decode cX1_signs 65 = .ok (.lcmp, 1) := by decide +kernel
theorem dX1_signs_66 : decode cX1_signs 66 = .ok (.ifCond .ge 10, 3) := by decide +kernel
theorem dX1_signs_69 : decode cX1_signs 69 = .ok (.lload_n 3, 1) := by decide +kernel
theorem dX1_signs_70 : decode cX1_signs 70 = .ok (.lconst 1, 1) := by decide +kernel
theorem dX1_signs_71 : decode cX1_signs 71 = .ok (.iload 9, 2) := by decide +kernel
theorem dX1_signs_73 : decode cX1_signs 73 = .ok (.lshl, 1) := by decide +kernel
theorem dX1_signs_74 : decode cX1_signs 74 = .ok (.lor, 1) := by decide +kernel
theorem dX1_signs_75 : decode cX1_signs 75 = .ok (.lstore_n 3, 1) := by decide +kernel
theorem dX1_signs_76 : decode cX1_signs 76 = .ok (.lload 10, 2) := by decide +kernel
theorem dX1_signs_78 : decode cX1_signs 78 = .ok (.lconst 1, 1) := by decide +kernel
theorem dX1_signs_79 : decode cX1_signs 79 = .ok (.lcmp, 1) := by decide +kernel
theorem dX1_signs_80 : decode cX1_signs 80 = .ok (.ifCond .ne 12, 3) := by decide +kernel
theorem dX1_signs_83 : decode cX1_signs 83 = .ok (.lload 5, 2) := by decide +kernel
theorem dX1_signs_85 : decode cX1_signs 85 = .ok (.lconst 1, 1) := by decide +kernel
theorem dX1_signs_86 : decode cX1_signs 86 = .ok (.iload 9, 2) := by decide +kernel
theorem dX1_signs_88 : decode cX1_signs 88 = .ok (.lshl, 1) := by decide +kernel
theorem dX1_signs_89 : decode cX1_signs 89 = .ok (.lor, 1) := by decide +kernel
theorem dX1_signs_90 : decode cX1_signs 90 = .ok (.lstore 5, 2) := by decide +kernel
theorem dX1_signs_92 : decode cX1_signs 92 = .ok (.iinc 9 1, 3) := by decide +kernel
theorem dX1_signs_95 : decode cX1_signs 95 = .ok (.goto (-67), 3) := by decide +kernel
theorem dX1_signs_98 : decode cX1_signs 98 = .ok (.aload_n 0, 1) := by decide +kernel
theorem dX1_signs_99 : decode cX1_signs 99 = .ok (.lload_n 3, 1) := by decide +kernel
theorem dX1_signs_100 : decode cX1_signs 100 = .ok (.lload 5, 2) := by decide +kernel
theorem dX1_signs_102 : decode cX1_signs 102 = .ok (.invokevirtual 55, 3) := by decide +kernel
theorem dX1_signs_105 : decode cX1_signs 105 = .ok (.ireturn, 1) := by decide +kernel
theorem dX1_drop_0 : decode cX1_drop 0 = .ok (.aload_n 0, 1) := by decide +kernel
theorem dX1_drop_1 : decode cX1_drop 1 = .ok (.iconst 0, 1) := by decide +kernel
theorem dX1_drop_2 : decode cX1_drop 2 = .ok (.putfield 23, 3) := by decide +kernel
theorem dX1_drop_5 : decode cX1_drop 5 = .ok (.iload_n 1, 1) := by decide +kernel
theorem dX1_drop_6 : decode cX1_drop 6 = .ok (.ifCond .lt 11, 3) := by decide +kernel
theorem dX1_drop_9 : decode cX1_drop 9 = .ok (.iload_n 1, 1) := by decide +kernel
theorem dX1_drop_10 : decode cX1_drop 10 = .ok (.aload_n 0, 1) := by decide +kernel
theorem dX1_drop_11 : decode cX1_drop 11 = .ok (.getfield 32, 3) := by decide +kernel
theorem dX1_drop_14 : decode cX1_drop 14 = .ok (.if_icmp .lt 10, 3) := by decide +kernel
theorem dX1_drop_17 : decode cX1_drop 17 = .ok (.aload_n 0, 1) := by decide +kernel
theorem dX1_drop_18 : decode cX1_drop 18 = .ok (.iconst 1, 1) := by decide +kernel
theorem dX1_drop_19 : decode cX1_drop 19 = .ok (.invokevirtual 39, 3) := by decide +kernel
theorem dX1_drop_22 : decode cX1_drop 22 = .ok (.pop, 1) := by decide +kernel
theorem dX1_drop_23 : decode cX1_drop 23 = .ok (.return_, 1) := by decide +kernel
theorem dX1_drop_24 : decode cX1_drop 24 = .ok (.iload_n 1, 1) := by decide +kernel
theorem dX1_drop_25 : decode cX1_drop 25 = .ok (.istore_n 2, 1) := by decide +kernel
theorem dX1_drop_26 : decode cX1_drop 26 = .ok (.iload_n 2, 1) := by decide +kernel
theorem dX1_drop_27 : decode cX1_drop 27 = .ok (.iconst 1, 1) := by decide +kernel
theorem dX1_drop_28 : decode cX1_drop 28 = .ok (.iadd, 1) := by decide +kernel
theorem dX1_drop_29 : decode cX1_drop 29 = .ok (.aload_n 0, 1) := by decide +kernel
theorem dX1_drop_30 : decode cX1_drop 30 = .ok (.getfield 32, 3) := by decide +kernel
theorem dX1_drop_33 : decode cX1_drop 33 = .ok (.if_icmp .ge 37, 3) := by decide +kernel
theorem dX1_drop_36 : decode cX1_drop 36 = .ok (.aload_n 0, 1) := by decide +kernel
theorem dX1_drop_37 : decode cX1_drop 37 = .ok (.getfield 7, 3) := by decide +kernel
theorem dX1_drop_40 : decode cX1_drop 40 = .ok (.iload_n 2, 1) := by decide +kernel
theorem dX1_drop_41 : decode cX1_drop 41 = .ok (.aload_n 0, 1) := by decide +kernel
theorem dX1_drop_42 : decode cX1_drop 42 = .ok (.getfield 7, 3) := by decide +kernel
theorem dX1_drop_45 : decode cX1_drop 45 = .ok (.iload_n 2, 1) := by decide +kernel
theorem dX1_drop_46 : decode cX1_drop 46 = .ok (.iconst 1, 1) := by decide +kernel
theorem dX1_drop_47 : decode cX1_drop 47 = .ok (.iadd, 1) := by decide +kernel
theorem dX1_drop_48 : decode cX1_drop 48 = .ok (.laload, 1) := by decide +kernel
theorem dX1_drop_49 : decode cX1_drop 49 = .ok (.lastore, 1) := by decide +kernel
theorem dX1_drop_50 : decode cX1_drop 50 = .ok (.aload_n 0, 1) := by decide +kernel
theorem dX1_drop_51 : decode cX1_drop 51 = .ok (.getfield 13, 3) := by decide +kernel
theorem dX1_drop_54 : decode cX1_drop 54 = .ok (.iload_n 2, 1) := by decide +kernel
theorem dX1_drop_55 : decode cX1_drop 55 = .ok (.aload_n 0, 1) := by decide +kernel
theorem dX1_drop_56 : decode cX1_drop 56 = .ok (.getfield 13, 3) := by decide +kernel
theorem dX1_drop_59 : decode cX1_drop 59 = .ok (.iload_n 2, 1) := by decide +kernel
theorem dX1_drop_60 : decode cX1_drop 60 = .ok (.iconst 1, 1) := by decide +kernel
theorem dX1_drop_61 : decode cX1_drop 61 = .ok (.iadd, 1) := by decide +kernel
theorem dX1_drop_62 : decode cX1_drop 62 = .ok (.laload, 1) := by decide +kernel
theorem dX1_drop_63 : decode cX1_drop 63 = .ok (.lastore, 1) := by decide +kernel
theorem dX1_drop_64 : decode cX1_drop 64 = .ok (.iinc 2 1, 3) := by decide +kernel
theorem dX1_drop_67 : decode cX1_drop 67 = .ok (.goto (-41), 3) := by decide +kernel
theorem dX1_drop_70 : decode cX1_drop 70 = .ok (.aload_n 0, 1) := by decide +kernel
theorem dX1_drop_71 : decode cX1_drop 71 = .ok (.dup, 1) := by decide +kernel
theorem dX1_drop_72 : decode cX1_drop 72 = .ok (.getfield 32, 3) := by decide +kernel
theorem dX1_drop_75 : decode cX1_drop 75 = .ok (.iconst 1, 1) := by decide +kernel
theorem dX1_drop_76 : decode cX1_drop 76 = .ok (.isub, 1) := by decide +kernel
theorem dX1_drop_77 : decode cX1_drop 77 = .ok (.putfield 32, 3) := by decide +kernel
theorem dX1_drop_80 : decode cX1_drop 80 = .ok (.return_, 1) := by decide +kernel
theorem dX1_decode_0 : decode cX1_decode 0 = .ok (.aload_n 0, 1) := by decide +kernel
theorem dX1_decode_1 : decode cX1_decode 1 = .ok (.iconst 0, 1) := by decide +kernel
theorem dX1_decode_2 : decode cX1_decode 2 = .ok (.putfield 23, 3) := by decide +kernel
theorem dX1_decode_5 : decode cX1_decode 5 = .ok (.iconst 0, 1) := by decide +kernel
theorem dX1_decode_6 : decode cX1_decode 6 = .ok (.istore_n 3, 1) := by decide +kernel
theorem dX1_decode_7 : decode cX1_decode 7 = .ok (.iconst (-1), 1) := by decide +kernel
theorem dX1_decode_8 : decode cX1_decode 8 = .ok (.istore 4, 2) := by decide +kernel
theorem dX1_decode_10 : decode cX1_decode 10 = .ok (.iconst 0, 1) := by decide +kernel
theorem dX1_decode_11 : decode cX1_decode 11 = .ok (.istore 5, 2) := by decide +kernel
theorem dX1_decode_13 : decode cX1_decode 13 = .ok (.iload 5, 2) := by decide +kernel
