theorem dX0_init_0 : decode cX0_init 0 = .ok (.aload_n 0, 1) := by decide +kernel
theorem dX0_init_1 : decode cX0_init 1 = .ok (.invokespecial 1, 3) := by decide +kernel
theorem dX0_init_4 : decode cX0_init 4 = .ok (.aload_n 0, 1) := by decide +kernel
theorem dX0_init_5 : decode cX0_init 5 = .ok (.sipush 512, 3) := by decide +kernel
theorem dX0_init_8 : decode cX0_init 8 = .ok (.newarray .long, 2) := by decide +kernel
theorem dX0_init_10 : decode cX0_init 10 = .ok (.putfield 9, 3) := by decide +kernel
theorem dX0_init_13 : decode cX0_init 13 = .ok (.aload_n 0, 1) := by decide +kernel
theorem dX0_init_14 : decode cX0_init 14 = .ok (.sipush 512, 3) := by decide +kernel
theorem dX0_init_17 : decode cX0_init 17 = .ok (.newarray .long, 2) := by decide +kernel
theorem dX0_init_19 : decode cX0_init 19 = .ok (.putfield 13, 3) := by decide +kernel
theorem dX0_init_22 : decode cX0_init 22 = .ok (.aload_n 0, 1) := by decide +kernel
theorem dX0_init_23 : decode cX0_init 23 = .ok (.iconst 0, 1) := by decide +kernel
theorem dX0_init_24 : decode cX0_init 24 = .ok (.putfield 16, 3) := by decide +kernel
theorem dX0_init_27 : decode cX0_init 27 = .ok (.aload_n 0, 1) := by decide +kernel
theorem dX0_init_28 : decode cX0_init 28 = .ok (.bipush 32, 2) := by decide +kernel
theorem dX0_init_30 : decode cX0_init 30 = .ok (.putfield 20, 3) := by decide +kernel
theorem dX0_init_33 : decode cX0_init 33 = .ok (.aload_n 0, 1) := by decide +kernel
theorem dX0_init_34 : decode cX0_init 34 = .ok (.bipush 32, 2) := by decide +kernel
theorem dX0_init_36 : decode cX0_init 36 = .ok (.invokestatic 23, 3) := by decide +kernel
theorem dX0_init_39 : decode cX0_init 39 = .ok (.putfield 27, 3) := by decide +kernel
theorem dX0_init_42 : decode cX0_init 42 = .ok (.aload_n 0, 1) := by decide +kernel
theorem dX0_init_43 : decode cX0_init 43 = .ok (.iconst (-1), 1) := by decide +kernel
theorem dX0_init_44 : decode cX0_init 44 = .ok (.putfield 31, 3) := by decide +kernel
theorem dX0_init_47 : decode cX0_init 47 = .ok (.aload_n 0, 1) := by decide +kernel
theorem dX0_init_48 : decode cX0_init 48 = .ok (.iconst 0, 1) := by decide +kernel
theorem dX0_init_49 : decode cX0_init 49 = .ok (.putfield 34, 3) := by decide +kernel
theorem dX0_init_52 : decode cX0_init 52 = .ok (.return_, 1) := by decide +kernel
theorem dX0_lowestBits_0 : decode cX0_lowestBits 0 = .ok (.ldc2_w 93, 3) := by decide +kernel
theorem dX0_lowestBits_3 : decode cX0_lowestBits 3 = .ok (.bipush 64, 2) := by decide +kernel
theorem dX0_lowestBits_5 : decode cX0_lowestBits 5 = .ok (.iload_n 0, 1) := by decide +kernel
theorem dX0_lowestBits_6 : decode cX0_lowestBits 6 = .ok (.isub, 1) := by decide +kernel
theorem dX0_lowestBits_7 : decode cX0_lowestBits 7 = .ok (.lushr, 1) := by decide +kernel
theorem dX0_lowestBits_8 : decode cX0_lowestBits 8 = .ok (.lreturn, 1) := by decide +kernel
theorem dX0_decode_0 : decode cX0_decode 0 = .ok (.iconst (-1), 1) := by decide +kernel
theorem dX0_decode_1 : decode cX0_decode 1 = .ok (.istore_n 3, 1) := by decide +kernel
theorem dX0_decode_2 : decode cX0_decode 2 = .ok (.iconst 0, 1) := by decide +kernel
theorem dX0_decode_3 : decode cX0_decode 3 = .ok (.istore 4, 2) := by decide +kernel
theorem dX0_decode_5 : decode cX0_decode 5 = .ok (.iload 4, 2) := by decide +kernel
theorem dX0_decode_7 : decode cX0_decode 7 = .ok (.aload_n 0, 1) := by decide +kernel
theorem dX0_decode_8 : decode cX0_decode 8 = .ok (.getfield 16, 3) := by decide +kernel
theorem dX0_decode_11 : decode cX0_decode 11 = .ok (.if_icmp .ge 49, 3) := by decide +kernel
theorem dX0_decode_14 : decode cX0_decode 14 = .ok (.aload_n 0, 1) := by decide +kernel
theorem dX0_decode_15 : decode cX0_decode 15 = .ok (.iload 4, 2) := by decide +kernel
theorem dX0_decode_17 : decode cX0_decode 17 = .ok (.aload_n 0, 1) := by decide +kernel
theorem dX0_decode_18 : decode cX0_decode 18 = .ok (.getfield 27, 3) := by decide +kernel
theorem dX0_decode_21 : decode cX0_decode 21 = .ok (.lload_n 1, 1) := by decide +kernel
theorem dX0_decode_22 : decode cX0_decode 22 = .ok (.aload_n 0, 1) := by decide +kernel
theorem dX0_decode_23 : decode cX0_decode 23 = .ok (.getfield 27, 3) := by decide +kernel
theorem dX0_decode_26 : decode cX0_decode 26 = .ok (.land, 1) := by decide +kernel
theorem dX0_decode_27 : decode cX0_decode 27 = .ok (.invokevirtual 62, 3) := by decide +kernel
theorem dX0_decode_30 : decode cX0_decode 30 = .ok (.ifCond .eq 24, 3) := by decide +kernel
theorem dX0_decode_33 : decode cX0_decode 33 = .ok (.iload_n 3, 1) := by decide +kernel
theorem dX0_decode_34 : decode cX0_decode 34 = .ok (.iconst (-1), 1) := by decide +kernel
theorem dX0_decode_35 : decode cX0_decode 35 = .ok (.if_icmp .ne 9, 3) := by decide +kernel
theorem dX0_decode_38 : decode cX0_decode 38 = .ok (.iload 4, 2) := by decide +kernel
theorem dX0_decode_40 : decode cX0_decode 40 = .ok (.istore_n 3, 1) := by decide +kernel
theorem dX0_decode_41 : decode cX0_decode 41 = .ok (.goto 13, 3) := by decide +kernel
theorem dX0_decode_44 : decode cX0_decode 44 = .ok (.aload_n 0, 1) := by decide +kernel
theorem dX0_decode_45 : decode cX0_decode 45 = .ok (.dup, 1) := by decide +kernel
theorem dX0_decode_46 : decode cX0_decode 46 = .ok (.getfield 34, 3) := by decide +kernel
theorem dX0_decode_49 : decode cX0_decode 49 = .ok (.iconst 1, 1) := by decide +kernel
theorem dX0_decode_50 : decode cX0_decode 50 = .ok (.iadd, 1) := by decide +kernel
theorem dX0_decode_51 : decode cX0_decode 51 = .ok (.putfield 34, 3) := by decide +kernel
theorem dX0_decode_54 : decode cX0_decode 54 = .ok (.iinc 4 1, 3) := by decide +kernel
theorem dX0_decode_57 : decode cX0_decode 57 = .ok (.goto (-52), 3) := by decide +kernel
theorem dX0_decode_60 : decode cX0_decode 60 = .ok (.iload_n 3, 1) := by decide +kernel
theorem dX0_decode_61 : decode cX0_decode 61 = .ok (.ireturn, 1) := by decide +kernel
theorem dX0_sharesWord_0 : decode cX0_sharesWord 0 = .ok (.aload_n 0, 1) := by decide +kernel
theorem dX0_sharesWord_1 : decode cX0_sharesWord 1 = .ok (.getfield 9, 3) := by decide +kernel
theorem dX0_sharesWord_4 : decode cX0_sharesWord 4 = .ok (.iload_n 1, 1) := by decide +kernel
theorem dX0_sharesWord_5 : decode cX0_sharesWord 5 = .ok (.laload, 1) := by decide +kernel
theorem dX0_sharesWord_6 : decode cX0_sharesWord 6 = .ok (.lload_n 2, 1) := by decide +kernel
theorem dX0_sharesWord_7 : decode cX0_sharesWord 7 = .ok (.land, 1) := by decide +kernel
theorem dX0_sharesWord_8 : decode cX0_sharesWord 8 = .ok (.aload_n 0, 1) := by decide +kernel
theorem dX0_sharesWord_9 : decode cX0_sharesWord 9 = .ok (.getfield 13, 3) := by decide +kernel
theorem dX0_sharesWord_12 : decode cX0_sharesWord 12 = .ok (.iload_n 1, 1) := by decide +kernel
theorem dX0_sharesWord_13 : decode cX0_sharesWord 13 = .ok (.laload, 1) := by decide +kernel
theorem dX0_sharesWord_14 : decode cX0_sharesWord 14 = .ok (.lload 4, 2) := by decide +kernel
theorem dX0_sharesWord_16 : decode cX0_sharesWord 16 = .ok (.lxor, 1) := by decide +kernel
theorem dX0_sharesWord_17 : decode cX0_sharesWord 17 = .ok (.land, 1) := by decide +kernel
theorem dX0_sharesWord_18 : decode cX0_sharesWord 18 = .ok (.lconst 0, 1) := by decide +kernel
theorem dX0_sharesWord_19 : decode cX0_sharesWord 19 = .ok (.lcmp, 1) := by decide +kernel
theorem dX0_sharesWord_20 : decode cX0_sharesWord 20 = .ok (.ifCond .ne 7, 3) := by decide +kernel
theorem dX0_sharesWord_23 : decode cX0_sharesWord 23 = .ok (.iconst 1, 1) := by decide +kernel
theorem dX0_sharesWord_24 : decode cX0_sharesWord 24 = .ok (.goto 4, 3) := by decide +kernel
theorem dX0_sharesWord_27 : decode cX0_sharesWord 27 = .ok (.iconst 0, 1) := by decide +kernel
theorem dX0_sharesWord_28 : decode cX0_sharesWord 28 = .ok (.ireturn, 1) := by decide +kernel
theorem dX0_count_0 : decode cX0_count 0 = .ok (.iload_n 1, 1) := by decide +kernel
theorem dX0_count_1 : decode cX0_count 1 = .ok (.tableswitch 51 0 3 #[31, 36, 41, 46], 31) := by decide +kernel
theorem dX0_count_32 : decode cX0_count 32 = .ok (.aload_n 0, 1) := by decide +kernel
theorem dX0_count_33 : decode cX0_count 33 = .ok (.getfield 16, 3) := by decide +kernel
theorem dX0_count_36 : decode cX0_count 36 = .ok (.ireturn, 1) := by decide +kernel
theorem dX0_count_37 : decode cX0_count 37 = .ok (.aload_n 0, 1) := by decide +kernel
theorem dX0_count_38 : decode cX0_count 38 = .ok (.getfield 20, 3) := by decide +kernel
theorem dX0_count_41 : decode cX0_count 41 = .ok (.ireturn, 1) := by decide +kernel
theorem dX0_count_42 : decode cX0_count 42 = .ok (.aload_n 0, 1) := by decide +kernel
theorem dX0_count_43 : decode cX0_count 43 = .ok (.getfield 31, 3) := by decide +kernel
theorem dX0_count_46 : decode cX0_count 46 = .ok (.ireturn, 1) := by decide +kernel
theorem dX0_count_47 : decode cX0_count 47 = .ok (.aload_n 0, 1) := by decide +kernel
theorem dX0_count_48 : decode cX0_count 48 = .ok (.getfield 34, 3) := by decide +kernel
theorem dX0_count_51 : decode cX0_count 51 = .ok (.ireturn, 1) := by decide +kernel
theorem dX0_count_52 : decode cX0_count 52 = .ok (.iconst (-1), 1) := by decide +kernel
theorem dX0_count_53 : decode cX0_count 53 = .ok (.ireturn, 1) := by decide +kernel
theorem dL_clear_0 : decode cL_clear 0 = .ok (.aload_n 0, 1) := by decide +kernel
theorem dL_clear_1 : decode cL_clear 1 = .ok (.iload_n 1, 1) := by decide +kernel
theorem dL_clear_2 : decode cL_clear 2 = .ok (.invokevirtual 7, 3) := by decide +kernel
theorem dL_clear_5 : decode cL_clear 5 = .ok (.goto 6, 3) := by decide +kernel
theorem dL_clear_8 : decode cL_clear 8 = .ok (.astore_n 2, 1) := by decide +kernel
theorem dL_clear_9 : decode cL_clear 9 = .ok (.iconst 1, 1) := by decide +kernel
theorem dL_clear_10 : decode cL_clear 10 = .ok (.ireturn, 1) := by decide +kernel
theorem dL_clear_11 : decode cL_clear 11 = .ok (.iconst 0, 1) := by decide +kernel
theorem dL_clear_12 : decode cL_clear 12 = .ok (.ireturn, 1) := by decide +kernel
theorem dX0_clear_0 : decode cX0_clear 0 = .ok (.iload_n 1, 1) := by decide +kernel
theorem dX0_clear_1 : decode cX0_clear 1 = .ok (.iconst 1, 1) := by decide +kernel
theorem dX0_clear_2 : decode cX0_clear 2 = .ok (.if_icmp .lt 9, 3) := by decide +kernel
theorem dX0_clear_5 : decode cX0_clear 5 = .ok (.iload_n 1, 1) := by decide +kernel
theorem dX0_clear_6 : decode cX0_clear 6 = .ok (.bipush 64, 2) := by decide +kernel
theorem dX0_clear_8 : decode cX0_clear 8 = .ok (.if_icmp .le 13, 3) := by decide +kernel
theorem dX0_clear_11 : decode cX0_clear 11 = .ok (.new 37, 3) := by decide +kernel
theorem dX0_clear_14 : decode cX0_clear 14 = .ok (.dup, 1) := by decide +kernel
theorem dX0_clear_15 : decode cX0_clear 15 = .ok (.ldc 39, 2) := by decide +kernel
theorem dX0_clear_17 : decode cX0_clear 17 = .ok (.invokespecial 41, 3) := by decide +kernel
theorem dX0_clear_20 : decode cX0_clear 20 = .ok (.athrow, 1) := by decide +kernel
theorem dX0_clear_21 : decode cX0_clear 21 = .ok (.aload_n 0, 1) := by decide +kernel
theorem dX0_clear_22 : decode cX0_clear 22 = .ok (.iconst 0, 1) := by decide +kernel
theorem dX0_clear_23 : decode cX0_clear 23 = .ok (.putfield 16, 3) := by decide +kernel
theorem dX0_clear_26 : decode cX0_clear 26 = .ok (.aload_n 0, 1) := by decide +kernel
theorem dX0_clear_27 : decode cX0_clear 27 = .ok (.iload_n 1, 1) := by decide +kernel
theorem dX0_clear_28 : decode cX0_clear 28 = .ok (.putfield 20, 3) := by decide +kernel
theorem dX0_clear_31 : decode cX0_clear 31 = .ok (.aload_n 0, 1) := by decide +kernel
theorem dX0_clear_32 : decode cX0_clear 32 = .ok (.iload_n 1, 1) := by decide +kernel
theorem dX0_clear_33 : decode cX0_clear 33 = .ok (.invokestatic 23, 3) := by decide +kernel
theorem dX0_clear_36 : decode cX0_clear 36 = .ok (.putfield 27, 3) := by decide +kernel
theorem dX0_clear_39 : decode cX0_clear 39 = .ok (.return_, 1) := by decide +kernel
theorem dL_add_0 : decode cL_add 0 = .ok (.aload 5, 2) := by decide +kernel
theorem dL_add_2 : decode cL_add 2 = .ok (.iconst 0, 1) := by decide +kernel
theorem dL_add_3 : decode cL_add 3 = .ok (.aload_n 0, 1) := by decide +kernel
theorem dL_add_4 : decode cL_add 4 = .ok (.lload_n 1, 1) := by decide +kernel
theorem dL_add_5 : decode cL_add 5 = .ok (.lload_n 3, 1) := by decide +kernel
theorem dL_add_6 : decode cL_add 6 = .ok (.invokevirtual 15, 3) := by decide +kernel
theorem dL_add_9 : decode cL_add 9 = .ok (.i2l, 1) := by decide +kernel
theorem dL_add_10 : decode cL_add 10 = .ok (.lastore, 1) := by decide +kernel
theorem dL_add_11 : decode cL_add 11 = .ok (.goto 11, 3) := by decide +kernel
theorem dL_add_14 : decode cL_add 14 = .ok (.astore 6, 2) := by decide +kernel
theorem dL_add_16 : decode cL_add 16 = .ok (.iconst 1, 1) := by decide +kernel
theorem dL_add_17 : decode cL_add 17 = .ok (.ireturn, 1) := by decide +kernel
theorem dL_add_18 : decode cL_add 18 = .ok (.astore 6, 2) := by decide +kernel
theorem dL_add_20 : decode cL_add 20 = .ok (.iconst 2, 1) := by decide +kernel
theorem dL_add_21 : decode cL_add 21 = .ok (.ireturn, 1) := by decide +kernel
theorem dL_add_22 : decode cL_add 22 = .ok (.iconst 0, 1) := by decide +kernel
theorem dL_add_23 : decode cL_add 23 = .ok (.ireturn, 1) := by decide +kernel
theorem dX0_add_0 : decode cX0_add 0 = .ok (.aload_n 0, 1) := by decide +kernel
theorem dX0_add_1 : decode cX0_add 1 = .ok (.lload_n 1, 1) := by decide +kernel
theorem dX0_add_2 : decode cX0_add 2 = .ok (.lload_n 3, 1) := by decide +kernel
theorem dX0_add_3 : decode cX0_add 3 = .ok (.invokevirtual 44, 3) := by decide +kernel
theorem dX0_add_6 : decode cX0_add 6 = .ok (.aload_n 0, 1) := by decide +kernel
theorem dX0_add_7 : decode cX0_add 7 = .ok (.lload_n 1, 1) := by decide +kernel
theorem dX0_add_8 : decode cX0_add 8 = .ok (.aload_n 0, 1) := by decide +kernel
theorem dX0_add_9 : decode cX0_add 9 = .ok (.getfield 27, 3) := by decide +kernel
theorem dX0_add_12 : decode cX0_add 12 = .ok (.land, 1) := by decide +kernel
theorem dX0_add_13 : decode cX0_add 13 = .ok (.lload_n 3, 1) := by decide +kernel
theorem dX0_add_14 : decode cX0_add 14 = .ok (.aload_n 0, 1) := by decide +kernel
theorem dX0_add_15 : decode cX0_add 15 = .ok (.getfield 27, 3) := by decide +kernel
theorem dX0_add_18 : decode cX0_add 18 = .ok (.land, 1) := by decide +kernel
theorem dX0_add_19 : decode cX0_add 19 = .ok (.invokevirtual 48, 3) := by decide +kernel
theorem dX0_add_22 : decode cX0_add 22 = .ok (.ireturn, 1) := by decide +kernel
theorem dX0_refuseStrayWant_0 : decode cX0_refuseStrayWant 0 = .ok (.lload_n 3, 1) := by decide +kernel
theorem dX0_refuseStrayWant_1 : decode cX0_refuseStrayWant 1 = .ok (.lload_n 1, 1) := by decide +kernel
theorem dX0_refuseStrayWant_2 : decode cX0_refuseStrayWant 2 = .ok (.ldc2_w 93, 3) := by decide +kernel
theorem dX0_refuseStrayWant_5 : decode cX0_refuseStrayWant 5 = .ok (.lxor, 1) := by decide +kernel
theorem dX0_refuseStrayWant_6 : decode cX0_refuseStrayWant 6 = .ok (.land, 1) := by decide +kernel
theorem dX0_refuseStrayWant_7 : decode cX0_refuseStrayWant 7 = .ok (.aload_n 0, 1) := by decide +kernel
theorem dX0_refuseStrayWant_8 : decode cX0_refuseStrayWant 8 = .ok (.getfield 27, 3) := by decide +kernel
theorem dX0_refuseStrayWant_11 : decode cX0_refuseStrayWant 11 = .ok (.land, 1) := by decide +kernel
theorem dX0_refuseStrayWant_12 : decode cX0_refuseStrayWant 12 = .ok (.lconst 0, 1) := by decide +kernel
theorem dX0_refuseStrayWant_13 : decode cX0_refuseStrayWant 13 = .ok (.lcmp, 1) := by decide +kernel
theorem dX0_refuseStrayWant_14 : decode cX0_refuseStrayWant 14 = .ok (.ifCond .eq 13, 3) := by decide +kernel
theorem dX0_refuseStrayWant_17 : decode cX0_refuseStrayWant 17 = .ok (.new 37, 3) := by decide +kernel
theorem dX0_refuseStrayWant_20 : decode cX0_refuseStrayWant 20 = .ok (.dup, 1) := by decide +kernel
theorem dX0_refuseStrayWant_21 : decode cX0_refuseStrayWant 21 = .ok (.ldc 95, 2) := by decide +kernel
theorem dX0_refuseStrayWant_23 : decode cX0_refuseStrayWant 23 = .ok (.invokespecial 41, 3) := by decide +kernel
theorem dX0_refuseStrayWant_26 : decode cX0_refuseStrayWant 26 = .ok (.athrow, 1) := by decide +kernel
theorem dX0_refuseStrayWant_27 : decode cX0_refuseStrayWant 27 = .ok (.return_, 1) := by decide +kernel
theorem dX0_append_0 : decode cX0_append 0 = .ok (.aload_n 0, 1) := by decide +kernel
theorem dX0_append_1 : decode cX0_append 1 = .ok (.getfield 16, 3) := by decide +kernel
theorem dX0_append_4 : decode cX0_append 4 = .ok (.sipush 512, 3) := by decide +kernel
theorem dX0_append_7 : decode cX0_append 7 = .ok (.if_icmp .lt 18, 3) := by decide +kernel
theorem dX0_append_10 : decode cX0_append 10 = .ok (.aload_n 0, 1) := by decide +kernel
theorem dX0_append_11 : decode cX0_append 11 = .ok (.iconst (-1), 1) := by decide +kernel
theorem dX0_append_12 : decode cX0_append 12 = .ok (.putfield 31, 3) := by decide +kernel
theorem dX0_append_15 : decode cX0_append 15 = .ok (.new 99, 3) := by decide +kernel
theorem dX0_append_18 : decode cX0_append 18 = .ok (.dup, 1) := by decide +kernel
theorem dX0_append_19 : decode cX0_append 19 = .ok (.ldc 101, 2) := by decide +kernel
theorem dX0_append_21 : decode cX0_append 21 = .ok (.invokespecial 103, 3) := by decide +kernel
theorem dX0_append_24 : decode cX0_append 24 = .ok (.athrow, 1) := by decide +kernel
theorem dX0_append_25 : decode cX0_append 25 = .ok (.aload_n 0, 1) := by decide +kernel
theorem dX0_append_26 : decode cX0_append 26 = .ok (.lload_n 1, 1) := by decide +kernel
theorem dX0_append_27 : decode cX0_append 27 = .ok (.lload_n 3, 1) := by decide +kernel
theorem dX0_append_28 : decode cX0_append 28 = .ok (.invokevirtual 66, 3) := by decide +kernel
theorem dX0_append_31 : decode cX0_append 31 = .ok (.istore 5, 2) := by decide +kernel
theorem dX0_append_33 : decode cX0_append 33 = .ok (.iload 5, 2) := by decide +kernel
theorem dX0_append_35 : decode cX0_append 35 = .ok (.iconst (-1), 1) := by decide +kernel
theorem dX0_append_36 : decode cX0_append 36 = .ok (.if_icmp .eq 19, 3) := by decide +kernel
theorem dX0_append_39 : decode cX0_append 39 = .ok (.aload_n 0, 1) := by decide +kernel
theorem dX0_append_40 : decode cX0_append 40 = .ok (.iload 5, 2) := by decide +kernel
theorem dX0_append_42 : decode cX0_append 42 = .ok (.putfield 31, 3) := by decide +kernel
theorem dX0_append_45 : decode cX0_append 45 = .ok (.new 99, 3) := by decide +kernel
theorem dX0_append_48 : decode cX0_append 48 = .ok (.dup, 1) := by decide +kernel
theorem dX0_append_49 : decode cX0_append 49 = .ok (.ldc 104, 2) := by decide +kernel
theorem dX0_append_51 : decode cX0_append 51 = .ok (.invokespecial 103, 3) := by decide +kernel
theorem dX0_append_54 : decode cX0_append 54 = .ok (.athrow, 1) := by decide +kernel
theorem dX0_append_55 : decode cX0_append 55 = .ok (.aload_n 0, 1) := by decide +kernel
theorem dX0_append_56 : decode cX0_append 56 = .ok (.getfield 9, 3) := by decide +kernel
theorem dX0_append_59 : decode cX0_append 59 = .ok (.aload_n 0, 1) := by decide +kernel
theorem dX0_append_60 : decode cX0_append 60 = .ok (.getfield 16, 3) := by decide +kernel
theorem dX0_append_63 : decode cX0_append 63 = .ok (.lload_n 1, 1) := by decide +kernel
theorem dX0_append_64 : decode cX0_append 64 = .ok (.lastore, 1) := by decide +kernel
theorem dX0_append_65 : decode cX0_append 65 = .ok (.aload_n 0, 1) := by decide +kernel
theorem dX0_append_66 : decode cX0_append 66 = .ok (.getfield 13, 3) := by decide +kernel
theorem dX0_append_69 : decode cX0_append 69 = .ok (.aload_n 0, 1) := by decide +kernel
theorem dX0_append_70 : decode cX0_append 70 = .ok (.getfield 16, 3) := by decide +kernel
theorem dX0_append_73 : decode cX0_append 73 = .ok (.lload_n 3, 1) := by decide +kernel
theorem dX0_append_74 : decode cX0_append 74 = .ok (.lastore, 1) := by decide +kernel
theorem dX0_append_75 : decode cX0_append 75 = .ok (.aload_n 0, 1) := by decide +kernel
theorem dX0_append_76 : decode cX0_append 76 = .ok (.dup, 1) := by decide +kernel
theorem dX0_append_77 : decode cX0_append 77 = .ok (.getfield 16, 3) := by decide +kernel
theorem dX0_append_80 : decode cX0_append 80 = .ok (.iconst 1, 1) := by decide +kernel
theorem dX0_append_81 : decode cX0_append 81 = .ok (.iadd, 1) := by decide +kernel
theorem dX0_append_82 : decode cX0_append 82 = .ok (.putfield 16, 3) := by decide +kernel
theorem dX0_append_85 : decode cX0_append 85 = .ok (.aload_n 0, 1) := by decide +kernel
theorem dX0_append_86 : decode cX0_append 86 = .ok (.getfield 16, 3) := by decide +kernel
theorem dX0_append_89 : decode cX0_append 89 = .ok (.iconst 1, 1) := by decide +kernel
theorem dX0_append_90 : decode cX0_append 90 = .ok (.isub, 1) := by decide +kernel
theorem dX0_append_91 : decode cX0_append 91 = .ok (.ireturn, 1) := by decide +kernel
theorem dX0_firstSharing_0 : decode cX0_firstSharing 0 = .ok (.iconst 0, 1) := by decide +kernel
theorem dX0_firstSharing_1 : decode cX0_firstSharing 1 = .ok (.istore 5, 2) := by decide +kernel
theorem dX0_firstSharing_3 : decode cX0_firstSharing 3 = .ok (.iload 5, 2) := by decide +kernel
theorem dX0_firstSharing_5 : decode cX0_firstSharing 5 = .ok (.aload_n 0, 1) := by decide +kernel
theorem dX0_firstSharing_6 : decode cX0_firstSharing 6 = .ok (.getfield 16, 3) := by decide +kernel
theorem dX0_firstSharing_9 : decode cX0_firstSharing 9 = .ok (.if_icmp .ge 23, 3) := by decide +kernel
theorem dX0_firstSharing_12 : decode cX0_firstSharing 12 = .ok (.aload_n 0, 1) := by decide +kernel
theorem dX0_firstSharing_13 : decode cX0_firstSharing 13 = .ok (.iload 5, 2) := by decide +kernel
theorem dX0_firstSharing_15 : decode cX0_firstSharing 15 = .ok (.lload_n 1, 1) := by decide +kernel
theorem dX0_firstSharing_16 : decode cX0_firstSharing 16 = .ok (.lload_n 3, 1) := by decide +kernel
theorem dX0_firstSharing_17 : decode cX0_firstSharing 17 = .ok (.invokevirtual 62, 3) := by decide +kernel
theorem dX0_firstSharing_20 : decode cX0_firstSharing 20 = .ok (.ifCond .eq 6, 3) := by decide +kernel
theorem dX0_firstSharing_23 : decode cX0_firstSharing 23 = .ok (.iload 5, 2) := by decide +kernel
theorem dX0_firstSharing_25 : decode cX0_firstSharing 25 = .ok (.ireturn, 1) := by decide +kernel
theorem dX0_firstSharing_26 : decode cX0_firstSharing 26 = .ok (.iinc 5 1, 3) := by decide +kernel
theorem dX0_firstSharing_29 : decode cX0_firstSharing 29 = .ok (.goto (-26), 3) := by decide +kernel
theorem dX0_firstSharing_32 : decode cX0_firstSharing 32 = .ok (.iconst (-1), 1) := by decide +kernel
theorem dX0_firstSharing_33 : decode cX0_firstSharing 33 = .ok (.ireturn, 1) := by decide +kernel
theorem dL_signs_0 : decode cL_signs 0 = .ok (.aload_n 3, 1) := by decide +kernel
theorem dL_signs_1 : decode cL_signs 1 = .ok (.iconst 0, 1) := by decide +kernel
theorem dL_signs_2 : decode cL_signs 2 = .ok (.aload_n 0, 1) := by decide +kernel
theorem dL_signs_3 : decode cL_signs 3 = .ok (.lload_n 1, 1) := by decide +kernel
theorem dL_signs_4 : decode cL_signs 4 = .ok (.invokevirtual 21, 3) := by decide +kernel
theorem dL_signs_7 : decode cL_signs 7 = .ok (.i2l, 1) := by decide +kernel
theorem dL_signs_8 : decode cL_signs 8 = .ok (.lastore, 1) := by decide +kernel
theorem dL_signs_9 : decode cL_signs 9 = .ok (.goto 11, 3) := by decide +kernel
theorem dL_signs_12 : decode cL_signs 12 = .ok (.astore 4, 2) := by decide +kernel
theorem dL_signs_14 : decode cL_signs 14 = .ok (.iconst 1, 1) := by decide +kernel
theorem dL_signs_15 : decode cL_signs 15 = .ok (.ireturn, 1) := by decide +kernel
theorem dL_signs_16 : decode cL_signs 16 = .ok (.astore 4, 2) := by decide +kernel
theorem dL_signs_18 : decode cL_signs 18 = .ok (.iconst 2, 1) := by decide +kernel
theorem dL_signs_19 : decode cL_signs 19 = .ok (.ireturn, 1) := by decide +kernel
theorem dL_signs_20 : decode cL_signs 20 = .ok (.iconst 0, 1) := by decide +kernel
theorem dL_signs_21 : decode cL_signs 21 = .ok (.ireturn, 1) := by decide +kernel
theorem dX0_signs_0 : decode cX0_signs 0 = .ok (.lload_n 1, 1) := by decide +kernel
theorem dX0_signs_1 : decode cX0_signs 1 = .ok (.lconst 0, 1) := by decide +kernel
theorem dX0_signs_2 : decode cX0_signs 2 = .ok (.lcmp, 1) := by decide +kernel
theorem dX0_signs_3 : decode cX0_signs 3 = .ok (.ifCond .ge 13, 3) := by decide +kernel
theorem dX0_signs_6 : decode cX0_signs 6 = .ok (.new 37, 3) := by decide +kernel
theorem dX0_signs_9 : decode cX0_signs 9 = .ok (.dup, 1) := by decide +kernel
theorem dX0_signs_10 : decode cX0_signs 10 = .ok (.ldc 52, 2) := by decide +kernel
theorem dX0_signs_12 : decode cX0_signs 12 = .ok (.invokespecial 41, 3) := by decide +kernel
theorem dX0_signs_15 : decode cX0_signs 15 = .ok (.athrow, 1) := by decide +kernel
theorem dX0_signs_16 : decode cX0_signs 16 = .ok (.lconst 0, 1) := by decide +kernel
theorem dX0_signs_17 : decode cX0_signs 17 = .ok (.lstore_n 3, 1) := by decide +kernel
theorem dX0_signs_18 : decode cX0_signs 18 = .ok (.lconst 0, 1) := by decide +kernel
theorem dX0_signs_19 : decode cX0_signs 19 = .ok (.lstore 5, 2) := by decide +kernel
theorem dX0_signs_21 : decode cX0_signs 21 = .ok (.lload_n 1, 1) := by decide +kernel
theorem dX0_signs_22 : decode cX0_signs 22 = .ok (.lstore 7, 2) := by decide +kernel
theorem dX0_signs_24 : decode cX0_signs 24 = .ok (.iconst 0, 1) := by decide +kernel
theorem dX0_signs_25 : decode cX0_signs 25 = .ok (.istore 9, 2) := by decide +kernel
theorem dX0_signs_27 : decode cX0_signs 27 = .ok (.iload 9, 2) := by decide +kernel
theorem dX0_signs_29 : decode cX0_signs 29 = .ok (.bipush 40, 2) := by decide +kernel
theorem dX0_signs_31 : decode cX0_signs 31 = .ok (.if_icmp .ge 57, 3) := by decide +kernel
theorem dX0_signs_34 : decode cX0_signs 34 = .ok (.lload 7, 2) := by decide +kernel
theorem dX0_signs_36 : decode cX0_signs 36 = .ok (.ldc2_w 54, 3) := by decide +kernel
theorem dX0_signs_39 : decode cX0_signs 39 = .ok (.lrem, 1) := by decide +kernel
theorem dX0_signs_40 : decode cX0_signs 40 = .ok (.lstore 10, 2) := by decide +kernel
theorem dX0_signs_42 : decode cX0_signs 42 = .ok (.lload 10, 2) := by decide +kernel
theorem dX0_signs_44 : decode cX0_signs 44 = .ok (.ldc2_w 56, 3) := by decide +kernel
theorem dX0_signs_47 : decode cX0_signs 47 = .ok (.lcmp, 1) := by decide +kernel
theorem dX0_signs_48 : decode cX0_signs 48 = .ok (.ifCond .eq 10, 3) := by decide +kernel
theorem dX0_signs_51 : decode cX0_signs 51 = .ok (.lload_n 3, 1) := by decide +kernel
theorem dX0_signs_52 : decode cX0_signs 52 = .ok (.lconst 1, 1) := by decide +kernel
theorem dX0_signs_53 : decode cX0_signs 53 = .ok (.iload 9, 2) := by decide +kernel
theorem dX0_signs_55 : decode cX0_signs 55 = .ok (.lshl, 1) := by decide +kernel
theorem dX0_signs_56 : decode cX0_signs 56 = .ok (.lor, 1) := by decide +kernel
theorem dX0_signs_57 : decode cX0_signs 57 = .ok (.lstore_n 3, 1) := by decide +kernel
theorem dX0_signs_58 : decode cX0_signs 58 = .ok (.lload 10, 2) := by decide +kernel
theorem dX0_signs_60 : decode cX0_signs 60 = .ok (.lconst 1, 1) := by decide +kernel
theorem dX0_signs_61 : decode cX0_signs 61 = .ok (.lcmp, 1) := by decide +kernel
theorem dX0_signs_62 : decode cX0_signs 62 = .ok (.ifCond .ne 12, 3) := by decide +kernel
theorem dX0_signs_65 : decode cX0_signs 65 = .ok (.lload 5, 2) := by decide +kernel
theorem dX0_signs_67 : decode cX0_signs 67 = .ok (.lconst 1, 1) := by decide +kernel
theorem dX0_signs_68 : decode cX0_signs 68 = .ok (.iload 9, 2) := by decide +kernel
theorem dX0_signs_70 : decode cX0_signs 70 = .ok (.lshl, 1) := by decide +kernel
theorem dX0_signs_71 : decode cX0_signs 71 = .ok (.lor, 1) := by decide +kernel
theorem dX0_signs_72 : decode cX0_signs 72 = .ok (.lstore 5, 2) := by decide +kernel
theorem dX0_signs_74 : decode cX0_signs 74 = .ok (.lload 7, 2) := by decide +kernel
theorem dX0_signs_76 : decode cX0_signs 76 = .ok (.ldc2_w 54, 3) := by decide +kernel
theorem dX0_signs_79 : decode cX0_signs 79 = .ok (.ldiv, 1) := by decide +kernel
theorem dX0_signs_80 : decode cX0_signs 80 = .ok (.lstore 7, 2) := by decide +kernel
theorem dX0_signs_82 : decode cX0_signs 82 = .ok (.iinc 9 1, 3) := by decide +kernel
theorem dX0_signs_85 : decode cX0_signs 85 = .ok (.goto (-58), 3) := by decide +kernel
theorem dX0_signs_88 : decode cX0_signs 88 = .ok (.aload_n 0, 1) := by decide +kernel
theorem dX0_signs_89 : decode cX0_signs 89 = .ok (.lload_n 3, 1) := by decide +kernel
theorem dX0_signs_90 : decode cX0_signs 90 = .ok (.aload_n 0, 1) := by decide +kernel
theorem dX0_signs_91 : decode cX0_signs 91 = .ok (.getfield 27, 3) := by decide +kernel
theorem dX0_signs_94 : decode cX0_signs 94 = .ok (.land, 1) := by decide +kernel
theorem dX0_signs_95 : decode cX0_signs 95 = .ok (.lload 5, 2) := by decide +kernel
theorem dX0_signs_97 : decode cX0_signs 97 = .ok (.aload_n 0, 1) := by decide +kernel
theorem dX0_signs_98 : decode cX0_signs 98 = .ok (.getfield 27, 3) := by decide +kernel
theorem dX0_signs_101 : decode cX0_signs 101 = .ok (.land, 1) := by decide +kernel
theorem dX0_signs_102 : decode cX0_signs 102 = .ok (.invokevirtual 48, 3) := by decide +kernel
theorem dX0_signs_105 : decode cX0_signs 105 = .ok (.ireturn, 1) := by decide +kernel
theorem dL_drop_0 : decode cL_drop 0 = .ok (.aload_n 0, 1) := by decide +kernel
theorem dL_drop_1 : decode cL_drop 1 = .ok (.iload_n 1, 1) := by decide +kernel
theorem dL_drop_2 : decode cL_drop 2 = .ok (.invokevirtual 25, 3) := by decide +kernel
theorem dL_drop_5 : decode cL_drop 5 = .ok (.goto 6, 3) := by decide +kernel
theorem dL_drop_8 : decode cL_drop 8 = .ok (.astore_n 2, 1) := by decide +kernel
theorem dL_drop_9 : decode cL_drop 9 = .ok (.iconst 1, 1) := by decide +kernel
theorem dL_drop_10 : decode cL_drop 10 = .ok (.ireturn, 1) := by decide +kernel
theorem dL_drop_11 : decode cL_drop 11 = .ok (.iconst 0, 1) := by decide +kernel
theorem dL_drop_12 : decode cL_drop 12 = .ok (.ireturn, 1) := by decide +kernel
theorem dX0_drop_0 : decode cX0_drop 0 = .ok (.aload_n 0, 1) := by decide +kernel
theorem dX0_drop_1 : decode cX0_drop 1 = .ok (.iload_n 1, 1) := by decide +kernel
theorem dX0_drop_2 : decode cX0_drop 2 = .ok (.invokevirtual 58, 3) := by decide +kernel
theorem dX0_drop_5 : decode cX0_drop 5 = .ok (.iload_n 1, 1) := by decide +kernel
theorem dX0_drop_6 : decode cX0_drop 6 = .ok (.iconst 1, 1) := by decide +kernel
theorem dX0_drop_7 : decode cX0_drop 7 = .ok (.iadd, 1) := by decide +kernel
theorem dX0_drop_8 : decode cX0_drop 8 = .ok (.istore_n 2, 1) := by decide +kernel
theorem dX0_drop_9 : decode cX0_drop 9 = .ok (.iload_n 2, 1) := by decide +kernel
theorem dX0_drop_10 : decode cX0_drop 10 = .ok (.aload_n 0, 1) := by decide +kernel
theorem dX0_drop_11 : decode cX0_drop 11 = .ok (.getfield 16, 3) := by decide +kernel
theorem dX0_drop_14 : decode cX0_drop 14 = .ok (.if_icmp .ge 37, 3) := by decide +kernel
theorem dX0_drop_17 : decode cX0_drop 17 = .ok (.aload_n 0, 1) := by decide +kernel
theorem dX0_drop_18 : decode cX0_drop 18 = .ok (.getfield 9, 3) := by decide +kernel
theorem dX0_drop_21 : decode cX0_drop 21 = .ok (.iload_n 2, 1) := by decide +kernel
theorem dX0_drop_22 : decode cX0_drop 22 = .ok (.iconst 1, 1) := by decide +kernel
theorem dX0_drop_23 : decode cX0_drop 23 = .ok (.isub, 1) := by decide +kernel
theorem dX0_drop_24 : decode cX0_drop 24 = .ok (.aload_n 0, 1) := by decide +kernel
theorem dX0_drop_25 : decode cX0_drop 25 = .ok (.getfield 9, 3) := by decide +kernel
theorem dX0_drop_28 : decode cX0_drop 28 = .ok (.iload_n 2, 1) := by decide +kernel
theorem dX0_drop_29 : decode cX0_drop 29 = .ok (.laload, 1) := by decide +kernel
theorem dX0_drop_30 : decode cX0_drop 30 = .ok (.lastore, 1) := by decide +kernel
theorem dX0_drop_31 : decode cX0_drop 31 = .ok (.aload_n 0, 1) := by decide +kernel
theorem dX0_drop_32 : decode cX0_drop 32 = .ok (.getfield 13, 3) := by decide +kernel
theorem dX0_drop_35 : decode cX0_drop 35 = .ok (.iload_n 2, 1) := by decide +kernel
theorem dX0_drop_36 : decode cX0_drop 36 = .ok (.iconst 1, 1) := by decide +kernel
theorem dX0_drop_37 : decode cX0_drop 37 = .ok (.isub, 1) := by decide +kernel
theorem dX0_drop_38 : decode cX0_drop 38 = .ok (.aload_n 0, 1) := by decide +kernel
theorem dX0_drop_39 : decode cX0_drop 39 = .ok (.getfield 13, 3) := by decide +kernel
theorem dX0_drop_42 : decode cX0_drop 42 = .ok (.iload_n 2, 1) := by decide +kernel
theorem dX0_drop_43 : decode cX0_drop 43 = .ok (.laload, 1) := by decide +kernel
theorem dX0_drop_44 : decode cX0_drop 44 = .ok (.lastore, 1) := by decide +kernel
theorem dX0_drop_45 : decode cX0_drop 45 = .ok (.iinc 2 1, 3) := by decide +kernel
theorem dX0_drop_48 : decode cX0_drop 48 = .ok (.goto (-39), 3) := by decide +kernel
theorem dX0_drop_51 : decode cX0_drop 51 = .ok (.aload_n 0, 1) := by decide +kernel
theorem dX0_drop_52 : decode cX0_drop 52 = .ok (.dup, 1) := by decide +kernel
theorem dX0_drop_53 : decode cX0_drop 53 = .ok (.getfield 16, 3) := by decide +kernel
theorem dX0_drop_56 : decode cX0_drop 56 = .ok (.iconst 1, 1) := by decide +kernel
theorem dX0_drop_57 : decode cX0_drop 57 = .ok (.isub, 1) := by decide +kernel
theorem dX0_drop_58 : decode cX0_drop 58 = .ok (.putfield 16, 3) := by decide +kernel
theorem dX0_drop_61 : decode cX0_drop 61 = .ok (.return_, 1) := by decide +kernel
theorem dX0_refuseAbsent_0 : decode cX0_refuseAbsent 0 = .ok (.iload_n 1, 1) := by decide +kernel
theorem dX0_refuseAbsent_1 : decode cX0_refuseAbsent 1 = .ok (.ifCond .lt 11, 3) := by decide +kernel
theorem dX0_refuseAbsent_4 : decode cX0_refuseAbsent 4 = .ok (.iload_n 1, 1) := by decide +kernel
theorem dX0_refuseAbsent_5 : decode cX0_refuseAbsent 5 = .ok (.aload_n 0, 1) := by decide +kernel
theorem dX0_refuseAbsent_6 : decode cX0_refuseAbsent 6 = .ok (.getfield 16, 3) := by decide +kernel
theorem dX0_refuseAbsent_9 : decode cX0_refuseAbsent 9 = .ok (.if_icmp .lt 13, 3) := by decide +kernel
theorem dX0_refuseAbsent_12 : decode cX0_refuseAbsent 12 = .ok (.new 80, 3) := by decide +kernel
theorem dX0_refuseAbsent_15 : decode cX0_refuseAbsent 15 = .ok (.dup, 1) := by decide +kernel
theorem dX0_refuseAbsent_16 : decode cX0_refuseAbsent 16 = .ok (.ldc 97, 2) := by decide +kernel
theorem dX0_refuseAbsent_18 : decode cX0_refuseAbsent 18 = .ok (.invokespecial 84, 3) := by decide +kernel
theorem dX0_refuseAbsent_21 : decode cX0_refuseAbsent 21 = .ok (.athrow, 1) := by decide +kernel
theorem dX0_refuseAbsent_22 : decode cX0_refuseAbsent 22 = .ok (.return_, 1) := by decide +kernel
theorem dL_meets_0 : decode cL_meets 0 = .ok (.aload 5, 2) := by decide +kernel
theorem dL_meets_2 : decode cL_meets 2 = .ok (.iconst 0, 1) := by decide +kernel
theorem dL_meets_3 : decode cL_meets 3 = .ok (.aload_n 0, 1) := by decide +kernel
theorem dL_meets_4 : decode cL_meets 4 = .ok (.lload_n 1, 1) := by decide +kernel
theorem dL_meets_5 : decode cL_meets 5 = .ok (.lload_n 3, 1) := by decide +kernel
theorem dL_meets_6 : decode cL_meets 6 = .ok (.invokevirtual 30, 3) := by decide +kernel
theorem dL_meets_9 : decode cL_meets 9 = .ok (.i2l, 1) := by decide +kernel
theorem dL_meets_10 : decode cL_meets 10 = .ok (.lastore, 1) := by decide +kernel
theorem dL_meets_11 : decode cL_meets 11 = .ok (.goto 7, 3) := by decide +kernel
theorem dL_meets_14 : decode cL_meets 14 = .ok (.astore 6, 2) := by decide +kernel
theorem dL_meets_16 : decode cL_meets 16 = .ok (.iconst 1, 1) := by decide +kernel
theorem dL_meets_17 : decode cL_meets 17 = .ok (.ireturn, 1) := by decide +kernel
theorem dL_meets_18 : decode cL_meets 18 = .ok (.iconst 0, 1) := by decide +kernel
theorem dL_meets_19 : decode cL_meets 19 = .ok (.ireturn, 1) := by decide +kernel
theorem dX0_meets_0 : decode cX0_meets 0 = .ok (.aload_n 0, 1) := by decide +kernel
theorem dX0_meets_1 : decode cX0_meets 1 = .ok (.lload_n 1, 1) := by decide +kernel
theorem dX0_meets_2 : decode cX0_meets 2 = .ok (.lload_n 3, 1) := by decide +kernel
theorem dX0_meets_3 : decode cX0_meets 3 = .ok (.invokevirtual 44, 3) := by decide +kernel
theorem dX0_meets_6 : decode cX0_meets 6 = .ok (.aload_n 0, 1) := by decide +kernel
theorem dX0_meets_7 : decode cX0_meets 7 = .ok (.lload_n 1, 1) := by decide +kernel
theorem dX0_meets_8 : decode cX0_meets 8 = .ok (.aload_n 0, 1) := by decide +kernel
theorem dX0_meets_9 : decode cX0_meets 9 = .ok (.getfield 27, 3) := by decide +kernel
theorem dX0_meets_12 : decode cX0_meets 12 = .ok (.land, 1) := by decide +kernel
theorem dX0_meets_13 : decode cX0_meets 13 = .ok (.lload_n 3, 1) := by decide +kernel
theorem dX0_meets_14 : decode cX0_meets 14 = .ok (.aload_n 0, 1) := by decide +kernel
theorem dX0_meets_15 : decode cX0_meets 15 = .ok (.getfield 27, 3) := by decide +kernel
theorem dX0_meets_18 : decode cX0_meets 18 = .ok (.land, 1) := by decide +kernel
theorem dX0_meets_19 : decode cX0_meets 19 = .ok (.invokevirtual 66, 3) := by decide +kernel
theorem dX0_meets_22 : decode cX0_meets 22 = .ok (.ireturn, 1) := by decide +kernel
theorem dL_free_0 : decode cL_free 0 = .ok (.aload 5, 2) := by decide +kernel
theorem dL_free_2 : decode cL_free 2 = .ok (.iconst 0, 1) := by decide +kernel
theorem dL_free_3 : decode cL_free 3 = .ok (.aload_n 0, 1) := by decide +kernel
theorem dL_free_4 : decode cL_free 4 = .ok (.lload_n 1, 1) := by decide +kernel
theorem dL_free_5 : decode cL_free 5 = .ok (.lload_n 3, 1) := by decide +kernel
theorem dL_free_6 : decode cL_free 6 = .ok (.invokevirtual 33, 3) := by decide +kernel
theorem dL_free_9 : decode cL_free 9 = .ok (.lastore, 1) := by decide +kernel
theorem dL_free_10 : decode cL_free 10 = .ok (.goto 7, 3) := by decide +kernel
theorem dL_free_13 : decode cL_free 13 = .ok (.astore 6, 2) := by decide +kernel
theorem dL_free_15 : decode cL_free 15 = .ok (.iconst 1, 1) := by decide +kernel
theorem dL_free_16 : decode cL_free 16 = .ok (.ireturn, 1) := by decide +kernel
theorem dL_free_17 : decode cL_free 17 = .ok (.iconst 0, 1) := by decide +kernel
theorem dL_free_18 : decode cL_free 18 = .ok (.ireturn, 1) := by decide +kernel
theorem dX0_free_0 : decode cX0_free 0 = .ok (.aload_n 0, 1) := by decide +kernel
theorem dX0_free_1 : decode cX0_free 1 = .ok (.lload_n 1, 1) := by decide +kernel
theorem dX0_free_2 : decode cX0_free 2 = .ok (.lload_n 3, 1) := by decide +kernel
theorem dX0_free_3 : decode cX0_free 3 = .ok (.invokevirtual 44, 3) := by decide +kernel
theorem dX0_free_6 : decode cX0_free 6 = .ok (.aload_n 0, 1) := by decide +kernel
theorem dX0_free_7 : decode cX0_free 7 = .ok (.lload_n 1, 1) := by decide +kernel
theorem dX0_free_8 : decode cX0_free 8 = .ok (.aload_n 0, 1) := by decide +kernel
theorem dX0_free_9 : decode cX0_free 9 = .ok (.getfield 27, 3) := by decide +kernel
theorem dX0_free_12 : decode cX0_free 12 = .ok (.land, 1) := by decide +kernel
theorem dX0_free_13 : decode cX0_free 13 = .ok (.lload_n 3, 1) := by decide +kernel
theorem dX0_free_14 : decode cX0_free 14 = .ok (.aload_n 0, 1) := by decide +kernel
theorem dX0_free_15 : decode cX0_free 15 = .ok (.getfield 27, 3) := by decide +kernel
theorem dX0_free_18 : decode cX0_free 18 = .ok (.land, 1) := by decide +kernel
theorem dX0_free_19 : decode cX0_free 19 = .ok (.invokevirtual 69, 3) := by decide +kernel
theorem dX0_free_22 : decode cX0_free 22 = .ok (.lreturn, 1) := by decide +kernel
theorem dX0_freeWords_0 : decode cX0_freeWords 0 = .ok (.aload_n 0, 1) := by decide +kernel
theorem dX0_freeWords_1 : decode cX0_freeWords 1 = .ok (.lload_n 1, 1) := by decide +kernel
theorem dX0_freeWords_2 : decode cX0_freeWords 2 = .ok (.invokevirtual 106, 3) := by decide +kernel
theorem dX0_freeWords_5 : decode cX0_freeWords 5 = .ok (.lstore 5, 2) := by decide +kernel
theorem dX0_freeWords_7 : decode cX0_freeWords 7 = .ok (.iconst 0, 1) := by decide +kernel
theorem dX0_freeWords_8 : decode cX0_freeWords 8 = .ok (.istore 7, 2) := by decide +kernel
theorem dX0_freeWords_10 : decode cX0_freeWords 10 = .ok (.iload 7, 2) := by decide +kernel
theorem dX0_freeWords_12 : decode cX0_freeWords 12 = .ok (.aload_n 0, 1) := by decide +kernel
theorem dX0_freeWords_13 : decode cX0_freeWords 13 = .ok (.getfield 16, 3) := by decide +kernel
theorem dX0_freeWords_16 : decode cX0_freeWords 16 = .ok (.if_icmp .ge 38, 3) := by decide +kernel
theorem dX0_freeWords_19 : decode cX0_freeWords 19 = .ok (.aload_n 0, 1) := by decide +kernel
theorem dX0_freeWords_20 : decode cX0_freeWords 20 = .ok (.iload 7, 2) := by decide +kernel
theorem dX0_freeWords_22 : decode cX0_freeWords 22 = .ok (.lload_n 1, 1) := by decide +kernel
theorem dX0_freeWords_23 : decode cX0_freeWords 23 = .ok (.lload_n 3, 1) := by decide +kernel
theorem dX0_freeWords_24 : decode cX0_freeWords 24 = .ok (.invokevirtual 62, 3) := by decide +kernel
theorem dX0_freeWords_27 : decode cX0_freeWords 27 = .ok (.ifCond .eq 21, 3) := by decide +kernel
theorem dX0_freeWords_30 : decode cX0_freeWords 30 = .ok (.lload 5, 2) := by decide +kernel
theorem dX0_freeWords_32 : decode cX0_freeWords 32 = .ok (.aload_n 0, 1) := by decide +kernel
theorem dX0_freeWords_33 : decode cX0_freeWords 33 = .ok (.aload_n 0, 1) := by decide +kernel
theorem dX0_freeWords_34 : decode cX0_freeWords 34 = .ok (.getfield 9, 3) := by decide +kernel
theorem dX0_freeWords_37 : decode cX0_freeWords 37 = .ok (.iload 7, 2) := by decide +kernel
theorem dX0_freeWords_39 : decode cX0_freeWords 39 = .ok (.laload, 1) := by decide +kernel
theorem dX0_freeWords_40 : decode cX0_freeWords 40 = .ok (.lload_n 1, 1) := by decide +kernel
theorem dX0_freeWords_41 : decode cX0_freeWords 41 = .ok (.lor, 1) := by decide +kernel
theorem dX0_freeWords_42 : decode cX0_freeWords 42 = .ok (.invokevirtual 106, 3) := by decide +kernel
theorem dX0_freeWords_45 : decode cX0_freeWords 45 = .ok (.lsub, 1) := by decide +kernel
theorem dX0_freeWords_46 : decode cX0_freeWords 46 = .ok (.lstore 5, 2) := by decide +kernel
theorem dX0_freeWords_48 : decode cX0_freeWords 48 = .ok (.iinc 7 1, 3) := by decide +kernel
theorem dX0_freeWords_51 : decode cX0_freeWords 51 = .ok (.goto (-41), 3) := by decide +kernel
theorem dX0_freeWords_54 : decode cX0_freeWords 54 = .ok (.lload 5, 2) := by decide +kernel
