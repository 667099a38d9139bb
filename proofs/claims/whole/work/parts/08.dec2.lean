theorem dX1_decode_15 : decode cX1_decode 15 = .ok (.aload_n 0, 1) := by decide +kernel
theorem dX1_decode_16 : decode cX1_decode 16 = .ok (.getfield 32, 3) := by decide +kernel
theorem dX1_decode_19 : decode cX1_decode 19 = .ok (.if_icmp .ge 43, 3) := by decide +kernel
theorem dX1_decode_22 : decode cX1_decode 22 = .ok (.lload_n 1, 1) := by decide +kernel
theorem dX1_decode_23 : decode cX1_decode 23 = .ok (.aload_n 0, 1) := by decide +kernel
theorem dX1_decode_24 : decode cX1_decode 24 = .ok (.getfield 7, 3) := by decide +kernel
theorem dX1_decode_27 : decode cX1_decode 27 = .ok (.iload 5, 2) := by decide +kernel
theorem dX1_decode_29 : decode cX1_decode 29 = .ok (.laload, 1) := by decide +kernel
theorem dX1_decode_30 : decode cX1_decode 30 = .ok (.land, 1) := by decide +kernel
theorem dX1_decode_31 : decode cX1_decode 31 = .ok (.aload_n 0, 1) := by decide +kernel
theorem dX1_decode_32 : decode cX1_decode 32 = .ok (.getfield 13, 3) := by decide +kernel
theorem dX1_decode_35 : decode cX1_decode 35 = .ok (.iload 5, 2) := by decide +kernel
theorem dX1_decode_37 : decode cX1_decode 37 = .ok (.laload, 1) := by decide +kernel
theorem dX1_decode_38 : decode cX1_decode 38 = .ok (.lcmp, 1) := by decide +kernel
theorem dX1_decode_39 : decode cX1_decode 39 = .ok (.ifCond .eq 6, 3) := by decide +kernel
theorem dX1_decode_42 : decode cX1_decode 42 = .ok (.goto 14, 3) := by decide +kernel
theorem dX1_decode_45 : decode cX1_decode 45 = .ok (.iload_n 3, 1) := by decide +kernel
theorem dX1_decode_46 : decode cX1_decode 46 = .ok (.ifCond .ne 7, 3) := by decide +kernel
theorem dX1_decode_49 : decode cX1_decode 49 = .ok (.iload 5, 2) := by decide +kernel
theorem dX1_decode_51 : decode cX1_decode 51 = .ok (.istore 4, 2) := by decide +kernel
theorem dX1_decode_53 : decode cX1_decode 53 = .ok (.iinc 3 1, 3) := by decide +kernel
theorem dX1_decode_56 : decode cX1_decode 56 = .ok (.iinc 5 1, 3) := by decide +kernel
theorem dX1_decode_59 : decode cX1_decode 59 = .ok (.goto (-46), 3) := by decide +kernel
theorem dX1_decode_62 : decode cX1_decode 62 = .ok (.iload_n 3, 1) := by decide +kernel
theorem dX1_decode_63 : decode cX1_decode 63 = .ok (.iconst 1, 1) := by decide +kernel
theorem dX1_decode_64 : decode cX1_decode 64 = .ok (.if_icmp .le 15, 3) := by decide +kernel
theorem dX1_decode_67 : decode cX1_decode 67 = .ok (.aload_n 0, 1) := by decide +kernel
theorem dX1_decode_68 : decode cX1_decode 68 = .ok (.dup, 1) := by decide +kernel
theorem dX1_decode_69 : decode cX1_decode 69 = .ok (.getfield 58, 3) := by decide +kernel
theorem dX1_decode_72 : decode cX1_decode 72 = .ok (.iload_n 3, 1) := by decide +kernel
theorem dX1_decode_73 : decode cX1_decode 73 = .ok (.iconst 1, 1) := by decide +kernel
theorem dX1_decode_74 : decode cX1_decode 74 = .ok (.isub, 1) := by decide +kernel
theorem dX1_decode_75 : decode cX1_decode 75 = .ok (.iadd, 1) := by decide +kernel
theorem dX1_decode_76 : decode cX1_decode 76 = .ok (.putfield 58, 3) := by decide +kernel
theorem dX1_decode_79 : decode cX1_decode 79 = .ok (.iload 4, 2) := by decide +kernel
theorem dX1_decode_81 : decode cX1_decode 81 = .ok (.ireturn, 1) := by decide +kernel
theorem dX1_meets_0 : decode cX1_meets 0 = .ok (.aload_n 0, 1) := by decide +kernel
theorem dX1_meets_1 : decode cX1_meets 1 = .ok (.iconst 0, 1) := by decide +kernel
theorem dX1_meets_2 : decode cX1_meets 2 = .ok (.putfield 23, 3) := by decide +kernel
theorem dX1_meets_5 : decode cX1_meets 5 = .ok (.aload_n 0, 1) := by decide +kernel
theorem dX1_meets_6 : decode cX1_meets 6 = .ok (.lload_n 1, 1) := by decide +kernel
theorem dX1_meets_7 : decode cX1_meets 7 = .ok (.lload_n 3, 1) := by decide +kernel
theorem dX1_meets_8 : decode cX1_meets 8 = .ok (.invokevirtual 43, 3) := by decide +kernel
theorem dX1_meets_11 : decode cX1_meets 11 = .ok (.ifCond .eq 11, 3) := by decide +kernel
theorem dX1_meets_14 : decode cX1_meets 14 = .ok (.aload_n 0, 1) := by decide +kernel
theorem dX1_meets_15 : decode cX1_meets 15 = .ok (.iconst 1, 1) := by decide +kernel
theorem dX1_meets_16 : decode cX1_meets 16 = .ok (.invokevirtual 39, 3) := by decide +kernel
theorem dX1_meets_19 : decode cX1_meets 19 = .ok (.goto 9, 3) := by decide +kernel
theorem dX1_meets_22 : decode cX1_meets 22 = .ok (.aload_n 0, 1) := by decide +kernel
theorem dX1_meets_23 : decode cX1_meets 23 = .ok (.lload_n 1, 1) := by decide +kernel
theorem dX1_meets_24 : decode cX1_meets 24 = .ok (.lload_n 3, 1) := by decide +kernel
theorem dX1_meets_25 : decode cX1_meets 25 = .ok (.invokevirtual 47, 3) := by decide +kernel
theorem dX1_meets_28 : decode cX1_meets 28 = .ok (.ireturn, 1) := by decide +kernel
theorem dX1_free_0 : decode cX1_free 0 = .ok (.aload_n 0, 1) := by decide +kernel
theorem dX1_free_1 : decode cX1_free 1 = .ok (.iconst 0, 1) := by decide +kernel
theorem dX1_free_2 : decode cX1_free 2 = .ok (.putfield 23, 3) := by decide +kernel
theorem dX1_free_5 : decode cX1_free 5 = .ok (.aload_n 0, 1) := by decide +kernel
theorem dX1_free_6 : decode cX1_free 6 = .ok (.lload_n 1, 1) := by decide +kernel
theorem dX1_free_7 : decode cX1_free 7 = .ok (.lload_n 3, 1) := by decide +kernel
theorem dX1_free_8 : decode cX1_free 8 = .ok (.invokevirtual 43, 3) := by decide +kernel
theorem dX1_free_11 : decode cX1_free 11 = .ok (.ifCond .eq 12, 3) := by decide +kernel
theorem dX1_free_14 : decode cX1_free 14 = .ok (.aload_n 0, 1) := by decide +kernel
theorem dX1_free_15 : decode cX1_free 15 = .ok (.iconst 1, 1) := by decide +kernel
theorem dX1_free_16 : decode cX1_free 16 = .ok (.invokevirtual 39, 3) := by decide +kernel
theorem dX1_free_19 : decode cX1_free 19 = .ok (.i2l, 1) := by decide +kernel
theorem dX1_free_20 : decode cX1_free 20 = .ok (.goto 9, 3) := by decide +kernel
theorem dX1_free_23 : decode cX1_free 23 = .ok (.aload_n 0, 1) := by decide +kernel
theorem dX1_free_24 : decode cX1_free 24 = .ok (.lload_n 1, 1) := by decide +kernel
theorem dX1_free_25 : decode cX1_free 25 = .ok (.lload_n 3, 1) := by decide +kernel
theorem dX1_free_26 : decode cX1_free 26 = .ok (.invokevirtual 69, 3) := by decide +kernel
theorem dX1_free_29 : decode cX1_free 29 = .ok (.lreturn, 1) := by decide +kernel
theorem dX1_none_0 : decode cX1_none 0 = .ok (.aload_n 0, 1) := by decide +kernel
theorem dX1_none_1 : decode cX1_none 1 = .ok (.getfield 16, 3) := by decide +kernel
theorem dX1_none_4 : decode cX1_none 4 = .ok (.lload_n 1, 1) := by decide +kernel
theorem dX1_none_5 : decode cX1_none 5 = .ok (.aload_n 0, 1) := by decide +kernel
theorem dX1_none_6 : decode cX1_none 6 = .ok (.invokevirtual 28, 3) := by decide +kernel
theorem dX1_none_9 : decode cX1_none 9 = .ok (.land, 1) := by decide +kernel
theorem dX1_none_10 : decode cX1_none 10 = .ok (.invokestatic 61, 3) := by decide +kernel
theorem dX1_none_13 : decode cX1_none 13 = .ok (.isub, 1) := by decide +kernel
theorem dX1_none_14 : decode cX1_none 14 = .ok (.invokestatic 65, 3) := by decide +kernel
theorem dX1_none_17 : decode cX1_none 17 = .ok (.lstore 5, 2) := by decide +kernel
theorem dX1_none_19 : decode cX1_none 19 = .ok (.iconst 0, 1) := by decide +kernel
theorem dX1_none_20 : decode cX1_none 20 = .ok (.istore 7, 2) := by decide +kernel
theorem dX1_none_22 : decode cX1_none 22 = .ok (.iload 7, 2) := by decide +kernel
theorem dX1_none_24 : decode cX1_none 24 = .ok (.aload_n 0, 1) := by decide +kernel
theorem dX1_none_25 : decode cX1_none 25 = .ok (.getfield 32, 3) := by decide +kernel
theorem dX1_none_28 : decode cX1_none 28 = .ok (.if_icmp .ge 50, 3) := by decide +kernel
theorem dX1_none_31 : decode cX1_none 31 = .ok (.aload_n 0, 1) := by decide +kernel
theorem dX1_none_32 : decode cX1_none 32 = .ok (.iload 7, 2) := by decide +kernel
theorem dX1_none_34 : decode cX1_none 34 = .ok (.lload_n 1, 1) := by decide +kernel
theorem dX1_none_35 : decode cX1_none 35 = .ok (.lload_n 3, 1) := by decide +kernel
theorem dX1_none_36 : decode cX1_none 36 = .ok (.invokevirtual 35, 3) := by decide +kernel
theorem dX1_none_39 : decode cX1_none 39 = .ok (.ifCond .eq 33, 3) := by decide +kernel
theorem dX1_none_42 : decode cX1_none 42 = .ok (.lload 5, 2) := by decide +kernel
theorem dX1_none_44 : decode cX1_none 44 = .ok (.aload_n 0, 1) := by decide +kernel
theorem dX1_none_45 : decode cX1_none 45 = .ok (.getfield 16, 3) := by decide +kernel
theorem dX1_none_48 : decode cX1_none 48 = .ok (.lload_n 1, 1) := by decide +kernel
theorem dX1_none_49 : decode cX1_none 49 = .ok (.aload_n 0, 1) := by decide +kernel
theorem dX1_none_50 : decode cX1_none 50 = .ok (.getfield 7, 3) := by decide +kernel
theorem dX1_none_53 : decode cX1_none 53 = .ok (.iload 7, 2) := by decide +kernel
theorem dX1_none_55 : decode cX1_none 55 = .ok (.laload, 1) := by decide +kernel
theorem dX1_none_56 : decode cX1_none 56 = .ok (.lor, 1) := by decide +kernel
theorem dX1_none_57 : decode cX1_none 57 = .ok (.aload_n 0, 1) := by decide +kernel
theorem dX1_none_58 : decode cX1_none 58 = .ok (.invokevirtual 28, 3) := by decide +kernel
theorem dX1_none_61 : decode cX1_none 61 = .ok (.land, 1) := by decide +kernel
theorem dX1_none_62 : decode cX1_none 62 = .ok (.invokestatic 61, 3) := by decide +kernel
theorem dX1_none_65 : decode cX1_none 65 = .ok (.isub, 1) := by decide +kernel
theorem dX1_none_66 : decode cX1_none 66 = .ok (.invokestatic 65, 3) := by decide +kernel
theorem dX1_none_69 : decode cX1_none 69 = .ok (.lsub, 1) := by decide +kernel
theorem dX1_none_70 : decode cX1_none 70 = .ok (.lstore 5, 2) := by decide +kernel
theorem dX1_none_72 : decode cX1_none 72 = .ok (.iinc 7 1, 3) := by decide +kernel
theorem dX1_none_75 : decode cX1_none 75 = .ok (.goto (-53), 3) := by decide +kernel
theorem dX1_none_78 : decode cX1_none 78 = .ok (.lload 5, 2) := by decide +kernel
theorem dX1_none_80 : decode cX1_none 80 = .ok (.lreturn, 1) := by decide +kernel
theorem dX1_bits_0 : decode cX1_bits 0 = .ok (.iconst 0, 1) := by decide +kernel
theorem dX1_bits_1 : decode cX1_bits 1 = .ok (.istore_n 2, 1) := by decide +kernel
theorem dX1_bits_2 : decode cX1_bits 2 = .ok (.iconst 0, 1) := by decide +kernel
theorem dX1_bits_3 : decode cX1_bits 3 = .ok (.istore_n 3, 1) := by decide +kernel
theorem dX1_bits_4 : decode cX1_bits 4 = .ok (.iload_n 3, 1) := by decide +kernel
theorem dX1_bits_5 : decode cX1_bits 5 = .ok (.bipush 64, 2) := by decide +kernel
theorem dX1_bits_7 : decode cX1_bits 7 = .ok (.if_icmp .ge 18, 3) := by decide +kernel
theorem dX1_bits_10 : decode cX1_bits 10 = .ok (.iload_n 2, 1) := by decide +kernel
theorem dX1_bits_11 : decode cX1_bits 11 = .ok (.lload_n 0, 1) := by decide +kernel
theorem dX1_bits_12 : decode cX1_bits 12 = .ok (.iload_n 3, 1) := by decide +kernel
theorem dX1_bits_13 : decode cX1_bits 13 = .ok (.lushr, 1) := by decide +kernel
theorem dX1_bits_14 : decode cX1_bits 14 = .ok (.lconst 1, 1) := by decide +kernel
theorem dX1_bits_15 : decode cX1_bits 15 = .ok (.land, 1) := by decide +kernel
theorem dX1_bits_16 : decode cX1_bits 16 = .ok (.l2i, 1) := by decide +kernel
theorem dX1_bits_17 : decode cX1_bits 17 = .ok (.iadd, 1) := by decide +kernel
theorem dX1_bits_18 : decode cX1_bits 18 = .ok (.istore_n 2, 1) := by decide +kernel
theorem dX1_bits_19 : decode cX1_bits 19 = .ok (.iinc 3 1, 3) := by decide +kernel
theorem dX1_bits_22 : decode cX1_bits 22 = .ok (.goto (-18), 3) := by decide +kernel
theorem dX1_bits_25 : decode cX1_bits 25 = .ok (.iload_n 2, 1) := by decide +kernel
theorem dX1_bits_26 : decode cX1_bits 26 = .ok (.ireturn, 1) := by decide +kernel
theorem dX1_power_0 : decode cX1_power 0 = .ok (.iload_n 0, 1) := by decide +kernel
theorem dX1_power_1 : decode cX1_power 1 = .ok (.bipush 64, 2) := by decide +kernel
theorem dX1_power_3 : decode cX1_power 3 = .ok (.if_icmp .ne 7, 3) := by decide +kernel
theorem dX1_power_6 : decode cX1_power 6 = .ok (.lconst 0, 1) := by decide +kernel
theorem dX1_power_7 : decode cX1_power 7 = .ok (.goto 6, 3) := by decide +kernel
theorem dX1_power_10 : decode cX1_power 10 = .ok (.lconst 1, 1) := by decide +kernel
theorem dX1_power_11 : decode cX1_power 11 = .ok (.iload_n 0, 1) := by decide +kernel
theorem dX1_power_12 : decode cX1_power 12 = .ok (.lshl, 1) := by decide +kernel
theorem dX1_power_13 : decode cX1_power 13 = .ok (.lreturn, 1) := by decide +kernel
theorem dX1_next_0 : decode cX1_next 0 = .ok (.aload_n 0, 1) := by decide +kernel
theorem dX1_next_1 : decode cX1_next 1 = .ok (.iconst 0, 1) := by decide +kernel
theorem dX1_next_2 : decode cX1_next 2 = .ok (.putfield 23, 3) := by decide +kernel
theorem dX1_next_5 : decode cX1_next 5 = .ok (.lload_n 1, 1) := by decide +kernel
theorem dX1_next_6 : decode cX1_next 6 = .ok (.aload_n 0, 1) := by decide +kernel
theorem dX1_next_7 : decode cX1_next 7 = .ok (.invokevirtual 28, 3) := by decide +kernel
theorem dX1_next_10 : decode cX1_next 10 = .ok (.land, 1) := by decide +kernel
theorem dX1_next_11 : decode cX1_next 11 = .ok (.lstore_n 3, 1) := by decide +kernel
theorem dX1_next_12 : decode cX1_next 12 = .ok (.aload_n 0, 1) := by decide +kernel
theorem dX1_next_13 : decode cX1_next 13 = .ok (.aload_n 0, 1) := by decide +kernel
theorem dX1_next_14 : decode cX1_next 14 = .ok (.invokevirtual 28, 3) := by decide +kernel
theorem dX1_next_17 : decode cX1_next 17 = .ok (.lload_n 3, 1) := by decide +kernel
theorem dX1_next_18 : decode cX1_next 18 = .ok (.invokevirtual 73, 3) := by decide +kernel
theorem dX1_next_21 : decode cX1_next 21 = .ok (.ifCond .eq 5, 3) := by decide +kernel
theorem dX1_next_24 : decode cX1_next 24 = .ok (.lload_n 3, 1) := by decide +kernel
theorem dX1_next_25 : decode cX1_next 25 = .ok (.lreturn, 1) := by decide +kernel
theorem dX1_next_26 : decode cX1_next 26 = .ok (.iconst 0, 1) := by decide +kernel
theorem dX1_next_27 : decode cX1_next 27 = .ok (.istore 5, 2) := by decide +kernel
theorem dX1_next_29 : decode cX1_next 29 = .ok (.iload 5, 2) := by decide +kernel
theorem dX1_next_31 : decode cX1_next 31 = .ok (.aload_n 0, 1) := by decide +kernel
theorem dX1_next_32 : decode cX1_next 32 = .ok (.getfield 16, 3) := by decide +kernel
theorem dX1_next_35 : decode cX1_next 35 = .ok (.if_icmp .ge 114, 3) := by decide +kernel
theorem dX1_next_38 : decode cX1_next 38 = .ok (.lconst 1, 1) := by decide +kernel
theorem dX1_next_39 : decode cX1_next 39 = .ok (.iload 5, 2) := by decide +kernel
theorem dX1_next_41 : decode cX1_next 41 = .ok (.lshl, 1) := by decide +kernel
theorem dX1_next_42 : decode cX1_next 42 = .ok (.lstore 6, 2) := by decide +kernel
theorem dX1_next_44 : decode cX1_next 44 = .ok (.lload_n 3, 1) := by decide +kernel
theorem dX1_next_45 : decode cX1_next 45 = .ok (.lload 6, 2) := by decide +kernel
theorem dX1_next_47 : decode cX1_next 47 = .ok (.land, 1) := by decide +kernel
theorem dX1_next_48 : decode cX1_next 48 = .ok (.lconst 0, 1) := by decide +kernel
theorem dX1_next_49 : decode cX1_next 49 = .ok (.lcmp, 1) := by decide +kernel
theorem dX1_next_50 : decode cX1_next 50 = .ok (.ifCond .eq 6, 3) := by decide +kernel
theorem dX1_next_53 : decode cX1_next 53 = .ok (.goto 90, 3) := by decide +kernel
theorem dX1_next_56 : decode cX1_next 56 = .ok (.aload_n 0, 1) := by decide +kernel
theorem dX1_next_57 : decode cX1_next 57 = .ok (.invokevirtual 28, 3) := by decide +kernel
theorem dX1_next_60 : decode cX1_next 60 = .ok (.lload 6, 2) := by decide +kernel
theorem dX1_next_62 : decode cX1_next 62 = .ok (.lconst 1, 1) := by decide +kernel
theorem dX1_next_63 : decode cX1_next 63 = .ok (.lsub, 1) := by decide +kernel
theorem dX1_next_64 : decode cX1_next 64 = .ok (.ldc2_w 26, 3) := by decide +kernel
theorem dX1_next_67 : decode cX1_next 67 = .ok (.lxor, 1) := by decide +kernel
theorem dX1_next_68 : decode cX1_next 68 = .ok (.land, 1) := by decide +kernel
theorem dX1_next_69 : decode cX1_next 69 = .ok (.lstore 8, 2) := by decide +kernel
theorem dX1_next_71 : decode cX1_next 71 = .ok (.lload_n 3, 1) := by decide +kernel
theorem dX1_next_72 : decode cX1_next 72 = .ok (.lload 8, 2) := by decide +kernel
theorem dX1_next_74 : decode cX1_next 74 = .ok (.land, 1) := by decide +kernel
theorem dX1_next_75 : decode cX1_next 75 = .ok (.lload 6, 2) := by decide +kernel
theorem dX1_next_77 : decode cX1_next 77 = .ok (.lor, 1) := by decide +kernel
theorem dX1_next_78 : decode cX1_next 78 = .ok (.lstore 10, 2) := by decide +kernel
theorem dX1_next_80 : decode cX1_next 80 = .ok (.aload_n 0, 1) := by decide +kernel
theorem dX1_next_81 : decode cX1_next 81 = .ok (.lload 8, 2) := by decide +kernel
theorem dX1_next_83 : decode cX1_next 83 = .ok (.lload 10, 2) := by decide +kernel
theorem dX1_next_85 : decode cX1_next 85 = .ok (.invokevirtual 73, 3) := by decide +kernel
theorem dX1_next_88 : decode cX1_next 88 = .ok (.ifCond .ne 6, 3) := by decide +kernel
theorem dX1_next_91 : decode cX1_next 91 = .ok (.goto 52, 3) := by decide +kernel
theorem dX1_next_94 : decode cX1_next 94 = .ok (.iload 5, 2) := by decide +kernel
theorem dX1_next_96 : decode cX1_next 96 = .ok (.iconst 1, 1) := by decide +kernel
theorem dX1_next_97 : decode cX1_next 97 = .ok (.isub, 1) := by decide +kernel
theorem dX1_next_98 : decode cX1_next 98 = .ok (.istore 12, 2) := by decide +kernel
theorem dX1_next_100 : decode cX1_next 100 = .ok (.iload 12, 2) := by decide +kernel
theorem dX1_next_102 : decode cX1_next 102 = .ok (.ifCond .lt 38, 3) := by decide +kernel
theorem dX1_next_105 : decode cX1_next 105 = .ok (.lload 8, 2) := by decide +kernel
theorem dX1_next_107 : decode cX1_next 107 = .ok (.lconst 1, 1) := by decide +kernel
theorem dX1_next_108 : decode cX1_next 108 = .ok (.iload 12, 2) := by decide +kernel
theorem dX1_next_110 : decode cX1_next 110 = .ok (.lshl, 1) := by decide +kernel
theorem dX1_next_111 : decode cX1_next 111 = .ok (.lor, 1) := by decide +kernel
theorem dX1_next_112 : decode cX1_next 112 = .ok (.lstore 8, 2) := by decide +kernel
theorem dX1_next_114 : decode cX1_next 114 = .ok (.aload_n 0, 1) := by decide +kernel
theorem dX1_next_115 : decode cX1_next 115 = .ok (.lload 8, 2) := by decide +kernel
theorem dX1_next_117 : decode cX1_next 117 = .ok (.lload 10, 2) := by decide +kernel
theorem dX1_next_119 : decode cX1_next 119 = .ok (.invokevirtual 73, 3) := by decide +kernel
theorem dX1_next_122 : decode cX1_next 122 = .ok (.ifCond .ne 12, 3) := by decide +kernel
theorem dX1_next_125 : decode cX1_next 125 = .ok (.lload 10, 2) := by decide +kernel
theorem dX1_next_127 : decode cX1_next 127 = .ok (.lconst 1, 1) := by decide +kernel
theorem dX1_next_128 : decode cX1_next 128 = .ok (.iload 12, 2) := by decide +kernel
theorem dX1_next_130 : decode cX1_next 130 = .ok (.lshl, 1) := by decide +kernel
theorem dX1_next_131 : decode cX1_next 131 = .ok (.lor, 1) := by decide +kernel
theorem dX1_next_132 : decode cX1_next 132 = .ok (.lstore 10, 2) := by decide +kernel
theorem dX1_next_134 : decode cX1_next 134 = .ok (.iinc 12 (-1), 3) := by decide +kernel
theorem dX1_next_137 : decode cX1_next 137 = .ok (.goto (-37), 3) := by decide +kernel
theorem dX1_next_140 : decode cX1_next 140 = .ok (.lload 10, 2) := by decide +kernel
theorem dX1_next_142 : decode cX1_next 142 = .ok (.lreturn, 1) := by decide +kernel
theorem dX1_next_143 : decode cX1_next 143 = .ok (.iinc 5 1, 3) := by decide +kernel
theorem dX1_next_146 : decode cX1_next 146 = .ok (.goto (-117), 3) := by decide +kernel
theorem dX1_next_149 : decode cX1_next 149 = .ok (.aload_n 0, 1) := by decide +kernel
theorem dX1_next_150 : decode cX1_next 150 = .ok (.iconst 1, 1) := by decide +kernel
theorem dX1_next_151 : decode cX1_next 151 = .ok (.invokevirtual 39, 3) := by decide +kernel
theorem dX1_next_154 : decode cX1_next 154 = .ok (.i2l, 1) := by decide +kernel
theorem dX1_next_155 : decode cX1_next 155 = .ok (.lreturn, 1) := by decide +kernel
theorem dX1_some_0 : decode cX1_some 0 = .ok (.aload_n 0, 1) := by decide +kernel
theorem dX1_some_1 : decode cX1_some 1 = .ok (.lload_n 1, 1) := by decide +kernel
theorem dX1_some_2 : decode cX1_some 2 = .ok (.lload_n 3, 1) := by decide +kernel
theorem dX1_some_3 : decode cX1_some 3 = .ok (.invokevirtual 69, 3) := by decide +kernel
theorem dX1_some_6 : decode cX1_some 6 = .ok (.lconst 0, 1) := by decide +kernel
theorem dX1_some_7 : decode cX1_some 7 = .ok (.lcmp, 1) := by decide +kernel
theorem dX1_some_8 : decode cX1_some 8 = .ok (.ifCond .ne 31, 3) := by decide +kernel
theorem dX1_some_11 : decode cX1_some 11 = .ok (.lload_n 1, 1) := by decide +kernel
theorem dX1_some_12 : decode cX1_some 12 = .ok (.aload_n 0, 1) := by decide +kernel
theorem dX1_some_13 : decode cX1_some 13 = .ok (.invokevirtual 28, 3) := by decide +kernel
theorem dX1_some_16 : decode cX1_some 16 = .ok (.land, 1) := by decide +kernel
theorem dX1_some_17 : decode cX1_some 17 = .ok (.invokestatic 61, 3) := by decide +kernel
theorem dX1_some_20 : decode cX1_some 20 = .ok (.ifCond .ne 23, 3) := by decide +kernel
theorem dX1_some_23 : decode cX1_some 23 = .ok (.aload_n 0, 1) := by decide +kernel
theorem dX1_some_24 : decode cX1_some 24 = .ok (.getfield 16, 3) := by decide +kernel
theorem dX1_some_27 : decode cX1_some 27 = .ok (.bipush 64, 2) := by decide +kernel
theorem dX1_some_29 : decode cX1_some 29 = .ok (.if_icmp .ne 14, 3) := by decide +kernel
theorem dX1_some_32 : decode cX1_some 32 = .ok (.aload_n 0, 1) := by decide +kernel
theorem dX1_some_33 : decode cX1_some 33 = .ok (.getfield 32, 3) := by decide +kernel
theorem dX1_some_36 : decode cX1_some 36 = .ok (.ifCond .ne 7, 3) := by decide +kernel
theorem dX1_some_39 : decode cX1_some 39 = .ok (.iconst 1, 1) := by decide +kernel
theorem dX1_some_40 : decode cX1_some 40 = .ok (.goto 4, 3) := by decide +kernel
theorem dX1_some_43 : decode cX1_some 43 = .ok (.iconst 0, 1) := by decide +kernel
theorem dX1_some_44 : decode cX1_some 44 = .ok (.ireturn, 1) := by decide +kernel
theorem dX1_told_0 : decode cX1_told 0 = .ok (.aload_n 0, 1) := by decide +kernel
theorem dX1_told_1 : decode cX1_told 1 = .ok (.iconst 0, 1) := by decide +kernel
theorem dX1_told_2 : decode cX1_told 2 = .ok (.putfield 23, 3) := by decide +kernel
theorem dX1_told_5 : decode cX1_told 5 = .ok (.iload_n 2, 1) := by decide +kernel
theorem dX1_told_6 : decode cX1_told 6 = .ok (.ifCond .lt 8, 3) := by decide +kernel
theorem dX1_told_9 : decode cX1_told 9 = .ok (.iload_n 2, 1) := by decide +kernel
theorem dX1_told_10 : decode cX1_told 10 = .ok (.iconst 2, 1) := by decide +kernel
theorem dX1_told_11 : decode cX1_told 11 = .ok (.if_icmp .le 10, 3) := by decide +kernel
theorem dX1_told_14 : decode cX1_told 14 = .ok (.aload_n 0, 1) := by decide +kernel
theorem dX1_told_15 : decode cX1_told 15 = .ok (.iconst 1, 1) := by decide +kernel
theorem dX1_told_16 : decode cX1_told 16 = .ok (.invokevirtual 39, 3) := by decide +kernel
theorem dX1_told_19 : decode cX1_told 19 = .ok (.i2l, 1) := by decide +kernel
theorem dX1_told_20 : decode cX1_told 20 = .ok (.lreturn, 1) := by decide +kernel
theorem dX1_told_21 : decode cX1_told 21 = .ok (.iload_n 1, 1) := by decide +kernel
theorem dX1_told_22 : decode cX1_told 22 = .ok (.ifCond .lt 11, 3) := by decide +kernel
theorem dX1_told_25 : decode cX1_told 25 = .ok (.iload_n 1, 1) := by decide +kernel
theorem dX1_told_26 : decode cX1_told 26 = .ok (.aload_n 0, 1) := by decide +kernel
theorem dX1_told_27 : decode cX1_told 27 = .ok (.getfield 32, 3) := by decide +kernel
theorem dX1_told_30 : decode cX1_told 30 = .ok (.if_icmp .lt 10, 3) := by decide +kernel
theorem dX1_told_33 : decode cX1_told 33 = .ok (.aload_n 0, 1) := by decide +kernel
theorem dX1_told_34 : decode cX1_told 34 = .ok (.iconst 2, 1) := by decide +kernel
theorem dX1_told_35 : decode cX1_told 35 = .ok (.invokevirtual 39, 3) := by decide +kernel
theorem dX1_told_38 : decode cX1_told 38 = .ok (.i2l, 1) := by decide +kernel
theorem dX1_told_39 : decode cX1_told 39 = .ok (.lreturn, 1) := by decide +kernel
theorem dX1_told_40 : decode cX1_told 40 = .ok (.iload_n 2, 1) := by decide +kernel
theorem dX1_told_41 : decode cX1_told 41 = .ok (.ifCond .ne 12, 3) := by decide +kernel
theorem dX1_told_44 : decode cX1_told 44 = .ok (.aload_n 0, 1) := by decide +kernel
theorem dX1_told_45 : decode cX1_told 45 = .ok (.getfield 7, 3) := by decide +kernel
theorem dX1_told_48 : decode cX1_told 48 = .ok (.iload_n 1, 1) := by decide +kernel
theorem dX1_told_49 : decode cX1_told 49 = .ok (.laload, 1) := by decide +kernel
theorem dX1_told_50 : decode cX1_told 50 = .ok (.goto 32, 3) := by decide +kernel
theorem dX1_told_53 : decode cX1_told 53 = .ok (.iload_n 2, 1) := by decide +kernel
theorem dX1_told_54 : decode cX1_told 54 = .ok (.iconst 1, 1) := by decide +kernel
theorem dX1_told_55 : decode cX1_told 55 = .ok (.if_icmp .ne 12, 3) := by decide +kernel
theorem dX1_told_58 : decode cX1_told 58 = .ok (.aload_n 0, 1) := by decide +kernel
theorem dX1_told_59 : decode cX1_told 59 = .ok (.getfield 13, 3) := by decide +kernel
theorem dX1_told_62 : decode cX1_told 62 = .ok (.iload_n 1, 1) := by decide +kernel
theorem dX1_told_63 : decode cX1_told 63 = .ok (.laload, 1) := by decide +kernel
theorem dX1_told_64 : decode cX1_told 64 = .ok (.goto 18, 3) := by decide +kernel
theorem dX1_told_67 : decode cX1_told 67 = .ok (.aload_n 0, 1) := by decide +kernel
theorem dX1_told_68 : decode cX1_told 68 = .ok (.getfield 16, 3) := by decide +kernel
theorem dX1_told_71 : decode cX1_told 71 = .ok (.aload_n 0, 1) := by decide +kernel
theorem dX1_told_72 : decode cX1_told 72 = .ok (.getfield 7, 3) := by decide +kernel
theorem dX1_told_75 : decode cX1_told 75 = .ok (.iload_n 1, 1) := by decide +kernel
theorem dX1_told_76 : decode cX1_told 76 = .ok (.laload, 1) := by decide +kernel
theorem dX1_told_77 : decode cX1_told 77 = .ok (.invokestatic 61, 3) := by decide +kernel
theorem dX1_told_80 : decode cX1_told 80 = .ok (.isub, 1) := by decide +kernel
theorem dX1_told_81 : decode cX1_told 81 = .ok (.i2l, 1) := by decide +kernel
theorem dX1_told_82 : decode cX1_told 82 = .ok (.lreturn, 1) := by decide +kernel
theorem dX1_count_0 : decode cX1_count 0 = .ok (.aload_n 0, 1) := by decide +kernel
theorem dX1_count_1 : decode cX1_count 1 = .ok (.iconst 0, 1) := by decide +kernel
theorem dX1_count_2 : decode cX1_count 2 = .ok (.putfield 23, 3) := by decide +kernel
theorem dX1_count_5 : decode cX1_count 5 = .ok (.iload_n 1, 1) := by decide +kernel
theorem dX1_count_6 : decode cX1_count 6 = .ok (.ifCond .ne 10, 3) := by decide +kernel
theorem dX1_count_9 : decode cX1_count 9 = .ok (.aload_n 0, 1) := by decide +kernel
theorem dX1_count_10 : decode cX1_count 10 = .ok (.getfield 32, 3) := by decide +kernel
theorem dX1_count_13 : decode cX1_count 13 = .ok (.goto 40, 3) := by decide +kernel
theorem dX1_count_16 : decode cX1_count 16 = .ok (.iload_n 1, 1) := by decide +kernel
theorem dX1_count_17 : decode cX1_count 17 = .ok (.iconst 1, 1) := by decide +kernel
theorem dX1_count_18 : decode cX1_count 18 = .ok (.if_icmp .ne 10, 3) := by decide +kernel
theorem dX1_count_21 : decode cX1_count 21 = .ok (.aload_n 0, 1) := by decide +kernel
theorem dX1_count_22 : decode cX1_count 22 = .ok (.getfield 16, 3) := by decide +kernel
theorem dX1_count_25 : decode cX1_count 25 = .ok (.goto 28, 3) := by decide +kernel
theorem dX1_count_28 : decode cX1_count 28 = .ok (.iload_n 1, 1) := by decide +kernel
theorem dX1_count_29 : decode cX1_count 29 = .ok (.iconst 2, 1) := by decide +kernel
theorem dX1_count_30 : decode cX1_count 30 = .ok (.if_icmp .ne 10, 3) := by decide +kernel
theorem dX1_count_33 : decode cX1_count 33 = .ok (.aload_n 0, 1) := by decide +kernel
theorem dX1_count_34 : decode cX1_count 34 = .ok (.getfield 20, 3) := by decide +kernel
theorem dX1_count_37 : decode cX1_count 37 = .ok (.goto 16, 3) := by decide +kernel
theorem dX1_count_40 : decode cX1_count 40 = .ok (.iload_n 1, 1) := by decide +kernel
theorem dX1_count_41 : decode cX1_count 41 = .ok (.iconst 3, 1) := by decide +kernel
theorem dX1_count_42 : decode cX1_count 42 = .ok (.if_icmp .ne 10, 3) := by decide +kernel
theorem dX1_count_45 : decode cX1_count 45 = .ok (.aload_n 0, 1) := by decide +kernel
theorem dX1_count_46 : decode cX1_count 46 = .ok (.getfield 58, 3) := by decide +kernel
theorem dX1_count_49 : decode cX1_count 49 = .ok (.goto 4, 3) := by decide +kernel
theorem dX1_count_52 : decode cX1_count 52 = .ok (.iconst (-1), 1) := by decide +kernel
theorem dX1_count_53 : decode cX1_count 53 = .ok (.ireturn, 1) := by decide +kernel
theorem dL_law_0 : decode cL_law 0 = .ok (.new 8, 3) := by decide +kernel
theorem dL_law_3 : decode cL_law 3 = .ok (.dup, 1) := by decide +kernel
theorem dL_law_4 : decode cL_law 4 = .ok (.invokespecial 45, 3) := by decide +kernel
theorem dL_law_7 : decode cL_law 7 = .ok (.astore_n 1, 1) := by decide +kernel
theorem dL_law_8 : decode cL_law 8 = .ok (.new 46, 3) := by decide +kernel
theorem dL_law_11 : decode cL_law 11 = .ok (.dup, 1) := by decide +kernel
theorem dL_law_12 : decode cL_law 12 = .ok (.invokespecial 48, 3) := by decide +kernel
theorem dL_law_15 : decode cL_law 15 = .ok (.astore_n 2, 1) := by decide +kernel
theorem dL_law_16 : decode cL_law 16 = .ok (.iconst 1, 1) := by decide +kernel
theorem dL_law_17 : decode cL_law 17 = .ok (.newarray .long, 2) := by decide +kernel
theorem dL_law_19 : decode cL_law 19 = .ok (.astore_n 3, 1) := by decide +kernel
theorem dL_law_20 : decode cL_law 20 = .ok (.iconst 0, 1) := by decide +kernel
theorem dL_law_21 : decode cL_law 21 = .ok (.istore 4, 2) := by decide +kernel
theorem dL_law_23 : decode cL_law 23 = .ok (.iload 4, 2) := by decide +kernel
theorem dL_law_25 : decode cL_law 25 = .ok (.aload_n 0, 1) := by decide +kernel
theorem dL_law_26 : decode cL_law 26 = .ok (.arraylength, 1) := by decide +kernel
theorem dL_law_27 : decode cL_law 27 = .ok (.iconst 5, 1) := by decide +kernel
theorem dL_law_28 : decode cL_law 28 = .ok (.isub, 1) := by decide +kernel
theorem dL_law_29 : decode cL_law 29 = .ok (.if_icmp .gt 860, 3) := by decide +kernel
theorem dL_law_32 : decode cL_law 32 = .ok (.aload_n 0, 1) := by decide +kernel
theorem dL_law_33 : decode cL_law 33 = .ok (.iload 4, 2) := by decide +kernel
theorem dL_law_35 : decode cL_law 35 = .ok (.iaload, 1) := by decide +kernel
theorem dL_law_36 : decode cL_law 36 = .ok (.bipush 15, 2) := by decide +kernel
theorem dL_law_38 : decode cL_law 38 = .ok (.iand, 1) := by decide +kernel
theorem dL_law_39 : decode cL_law 39 = .ok (.tableswitch 844 0 9 #[53, 89, 221, 309, 345, 402, 534, 665, 752, 819], 53) := by decide +kernel
theorem dL_law_92 : decode cL_law 92 = .ok (.aload_n 1, 1) := by decide +kernel
theorem dL_law_93 : decode cL_law 93 = .ok (.aload_n 0, 1) := by decide +kernel
theorem dL_law_94 : decode cL_law 94 = .ok (.iload 4, 2) := by decide +kernel
theorem dL_law_96 : decode cL_law 96 = .ok (.iconst 1, 1) := by decide +kernel
theorem dL_law_97 : decode cL_law 97 = .ok (.iadd, 1) := by decide +kernel
theorem dL_law_98 : decode cL_law 98 = .ok (.iaload, 1) := by decide +kernel
theorem dL_law_99 : decode cL_law 99 = .ok (.invokestatic 49, 3) := by decide +kernel
theorem dL_law_102 : decode cL_law 102 = .ok (.istore 5, 2) := by decide +kernel
theorem dL_law_104 : decode cL_law 104 = .ok (.aload_n 2, 1) := by decide +kernel
theorem dL_law_105 : decode cL_law 105 = .ok (.aload_n 0, 1) := by decide +kernel
theorem dL_law_106 : decode cL_law 106 = .ok (.iload 4, 2) := by decide +kernel
theorem dL_law_108 : decode cL_law 108 = .ok (.iconst 1, 1) := by decide +kernel
theorem dL_law_109 : decode cL_law 109 = .ok (.iadd, 1) := by decide +kernel
theorem dL_law_110 : decode cL_law 110 = .ok (.iaload, 1) := by decide +kernel
theorem dL_law_111 : decode cL_law 111 = .ok (.invokevirtual 54, 3) := by decide +kernel
theorem dL_law_114 : decode cL_law 114 = .ok (.aload_n 2, 1) := by decide +kernel
theorem dL_law_115 : decode cL_law 115 = .ok (.invokevirtual 55, 3) := by decide +kernel
theorem dL_law_118 : decode cL_law 118 = .ok (.iload 5, 2) := by decide +kernel
theorem dL_law_120 : decode cL_law 120 = .ok (.if_icmp .eq 5, 3) := by decide +kernel
theorem dL_law_123 : decode cL_law 123 = .ok (.iconst 0, 1) := by decide +kernel
theorem dL_law_124 : decode cL_law 124 = .ok (.ireturn, 1) := by decide +kernel
theorem dL_law_125 : decode cL_law 125 = .ok (.goto 758, 3) := by decide +kernel
theorem dL_law_128 : decode cL_law 128 = .ok (.aload_n 1, 1) := by decide +kernel
theorem dL_law_129 : decode cL_law 129 = .ok (.aload_n 0, 1) := by decide +kernel
theorem dL_law_130 : decode cL_law 130 = .ok (.iload 4, 2) := by decide +kernel
theorem dL_law_132 : decode cL_law 132 = .ok (.iconst 1, 1) := by decide +kernel
theorem dL_law_133 : decode cL_law 133 = .ok (.iadd, 1) := by decide +kernel
theorem dL_law_134 : decode cL_law 134 = .ok (.iaload, 1) := by decide +kernel
theorem dL_law_135 : decode cL_law 135 = .ok (.i2l, 1) := by decide +kernel
theorem dL_law_136 : decode cL_law 136 = .ok (.bipush 32, 2) := by decide +kernel
theorem dL_law_138 : decode cL_law 138 = .ok (.lshl, 1) := by decide +kernel
theorem dL_law_139 : decode cL_law 139 = .ok (.aload_n 0, 1) := by decide +kernel
theorem dL_law_140 : decode cL_law 140 = .ok (.iload 4, 2) := by decide +kernel
theorem dL_law_142 : decode cL_law 142 = .ok (.iconst 2, 1) := by decide +kernel
theorem dL_law_143 : decode cL_law 143 = .ok (.iadd, 1) := by decide +kernel
theorem dL_law_144 : decode cL_law 144 = .ok (.iaload, 1) := by decide +kernel
theorem dL_law_145 : decode cL_law 145 = .ok (.i2l, 1) := by decide +kernel
theorem dL_law_146 : decode cL_law 146 = .ok (.ldc2_w 59, 3) := by decide +kernel
theorem dL_law_149 : decode cL_law 149 = .ok (.land, 1) := by decide +kernel
theorem dL_law_150 : decode cL_law 150 = .ok (.lor, 1) := by decide +kernel
theorem dL_law_151 : decode cL_law 151 = .ok (.aload_n 0, 1) := by decide +kernel
theorem dL_law_152 : decode cL_law 152 = .ok (.iload 4, 2) := by decide +kernel
theorem dL_law_154 : decode cL_law 154 = .ok (.iconst 3, 1) := by decide +kernel
theorem dL_law_155 : decode cL_law 155 = .ok (.iadd, 1) := by decide +kernel
theorem dL_law_156 : decode cL_law 156 = .ok (.iaload, 1) := by decide +kernel
theorem dL_law_157 : decode cL_law 157 = .ok (.i2l, 1) := by decide +kernel
theorem dL_law_158 : decode cL_law 158 = .ok (.bipush 32, 2) := by decide +kernel
theorem dL_law_160 : decode cL_law 160 = .ok (.lshl, 1) := by decide +kernel
theorem dL_law_161 : decode cL_law 161 = .ok (.aload_n 0, 1) := by decide +kernel
theorem dL_law_162 : decode cL_law 162 = .ok (.iload 4, 2) := by decide +kernel
theorem dL_law_164 : decode cL_law 164 = .ok (.iconst 4, 1) := by decide +kernel
theorem dL_law_165 : decode cL_law 165 = .ok (.iadd, 1) := by decide +kernel
theorem dL_law_166 : decode cL_law 166 = .ok (.iaload, 1) := by decide +kernel
theorem dL_law_167 : decode cL_law 167 = .ok (.i2l, 1) := by decide +kernel
theorem dL_law_168 : decode cL_law 168 = .ok (.ldc2_w 59, 3) := by decide +kernel
theorem dL_law_171 : decode cL_law 171 = .ok (.land, 1) := by decide +kernel
theorem dL_law_172 : decode cL_law 172 = .ok (.lor, 1) := by decide +kernel
theorem dL_law_173 : decode cL_law 173 = .ok (.aload_n 3, 1) := by decide +kernel
theorem dL_law_174 : decode cL_law 174 = .ok (.invokestatic 61, 3) := by decide +kernel
theorem dL_law_177 : decode cL_law 177 = .ok (.istore 5, 2) := by decide +kernel
theorem dL_law_179 : decode cL_law 179 = .ok (.aload_n 2, 1) := by decide +kernel
theorem dL_law_180 : decode cL_law 180 = .ok (.aload_n 0, 1) := by decide +kernel
theorem dL_law_181 : decode cL_law 181 = .ok (.iload 4, 2) := by decide +kernel
theorem dL_law_183 : decode cL_law 183 = .ok (.iconst 1, 1) := by decide +kernel
theorem dL_law_184 : decode cL_law 184 = .ok (.iadd, 1) := by decide +kernel
theorem dL_law_185 : decode cL_law 185 = .ok (.iaload, 1) := by decide +kernel
theorem dL_law_186 : decode cL_law 186 = .ok (.i2l, 1) := by decide +kernel
theorem dL_law_187 : decode cL_law 187 = .ok (.bipush 32, 2) := by decide +kernel
theorem dL_law_189 : decode cL_law 189 = .ok (.lshl, 1) := by decide +kernel
theorem dL_law_190 : decode cL_law 190 = .ok (.aload_n 0, 1) := by decide +kernel
theorem dL_law_191 : decode cL_law 191 = .ok (.iload 4, 2) := by decide +kernel
theorem dL_law_193 : decode cL_law 193 = .ok (.iconst 2, 1) := by decide +kernel
theorem dL_law_194 : decode cL_law 194 = .ok (.iadd, 1) := by decide +kernel
theorem dL_law_195 : decode cL_law 195 = .ok (.iaload, 1) := by decide +kernel
theorem dL_law_196 : decode cL_law 196 = .ok (.i2l, 1) := by decide +kernel
theorem dL_law_197 : decode cL_law 197 = .ok (.ldc2_w 59, 3) := by decide +kernel
theorem dL_law_200 : decode cL_law 200 = .ok (.land, 1) := by decide +kernel
theorem dL_law_201 : decode cL_law 201 = .ok (.lor, 1) := by decide +kernel
theorem dL_law_202 : decode cL_law 202 = .ok (.aload_n 0, 1) := by decide +kernel
theorem dL_law_203 : decode cL_law 203 = .ok (.iload 4, 2) := by decide +kernel
theorem dL_law_205 : decode cL_law 205 = .ok (.iconst 3, 1) := by decide +kernel
theorem dL_law_206 : decode cL_law 206 = .ok (.iadd, 1) := by decide +kernel
theorem dL_law_207 : decode cL_law 207 = .ok (.iaload, 1) := by decide +kernel
theorem dL_law_208 : decode cL_law 208 = .ok (.i2l, 1) := by decide +kernel
theorem dL_law_209 : decode cL_law 209 = .ok (.bipush 32, 2) := by decide +kernel
theorem dL_law_211 : decode cL_law 211 = .ok (.lshl, 1) := by decide +kernel
theorem dL_law_212 : decode cL_law 212 = .ok (.aload_n 0, 1) := by decide +kernel
theorem dL_law_213 : decode cL_law 213 = .ok (.iload 4, 2) := by decide +kernel
theorem dL_law_215 : decode cL_law 215 = .ok (.iconst 4, 1) := by decide +kernel
theorem dL_law_216 : decode cL_law 216 = .ok (.iadd, 1) := by decide +kernel
theorem dL_law_217 : decode cL_law 217 = .ok (.iaload, 1) := by decide +kernel
theorem dL_law_218 : decode cL_law 218 = .ok (.i2l, 1) := by decide +kernel
theorem dL_law_219 : decode cL_law 219 = .ok (.ldc2_w 59, 3) := by decide +kernel
theorem dL_law_222 : decode cL_law 222 = .ok (.land, 1) := by decide +kernel
theorem dL_law_223 : decode cL_law 223 = .ok (.lor, 1) := by decide +kernel
theorem dL_law_224 : decode cL_law 224 = .ok (.invokevirtual 64, 3) := by decide +kernel
theorem dL_law_227 : decode cL_law 227 = .ok (.istore 6, 2) := by decide +kernel
theorem dL_law_229 : decode cL_law 229 = .ok (.aload_n 2, 1) := by decide +kernel
theorem dL_law_230 : decode cL_law 230 = .ok (.invokevirtual 55, 3) := by decide +kernel
theorem dL_law_233 : decode cL_law 233 = .ok (.iload 5, 2) := by decide +kernel
theorem dL_law_235 : decode cL_law 235 = .ok (.if_icmp .eq 5, 3) := by decide +kernel
theorem dL_law_238 : decode cL_law 238 = .ok (.iconst 0, 1) := by decide +kernel
theorem dL_law_239 : decode cL_law 239 = .ok (.ireturn, 1) := by decide +kernel
theorem dL_law_240 : decode cL_law 240 = .ok (.iload 5, 2) := by decide +kernel
theorem dL_law_242 : decode cL_law 242 = .ok (.ifCond .ne 15, 3) := by decide +kernel
theorem dL_law_245 : decode cL_law 245 = .ok (.aload_n 3, 1) := by decide +kernel
theorem dL_law_246 : decode cL_law 246 = .ok (.iconst 0, 1) := by decide +kernel
theorem dL_law_247 : decode cL_law 247 = .ok (.laload, 1) := by decide +kernel
theorem dL_law_248 : decode cL_law 248 = .ok (.iload 6, 2) := by decide +kernel
theorem dL_law_250 : decode cL_law 250 = .ok (.i2l, 1) := by decide +kernel
theorem dL_law_251 : decode cL_law 251 = .ok (.lcmp, 1) := by decide +kernel
theorem dL_law_252 : decode cL_law 252 = .ok (.ifCond .eq 5, 3) := by decide +kernel
theorem dL_law_255 : decode cL_law 255 = .ok (.iconst 0, 1) := by decide +kernel
theorem dL_law_256 : decode cL_law 256 = .ok (.ireturn, 1) := by decide +kernel
theorem dL_law_257 : decode cL_law 257 = .ok (.goto 626, 3) := by decide +kernel
theorem dL_law_260 : decode cL_law 260 = .ok (.aload_n 1, 1) := by decide +kernel
theorem dL_law_261 : decode cL_law 261 = .ok (.aload_n 0, 1) := by decide +kernel
theorem dL_law_262 : decode cL_law 262 = .ok (.iload 4, 2) := by decide +kernel
theorem dL_law_264 : decode cL_law 264 = .ok (.iconst 1, 1) := by decide +kernel
theorem dL_law_265 : decode cL_law 265 = .ok (.iadd, 1) := by decide +kernel
