theorem dX0_init_0 : decode cX0_init 0 = .ok (.aload_n 0, 1) := by decide +kernel
theorem dX0_init_1 : decode cX0_init 1 = .ok (.invokespecial 5, 3) := by decide +kernel
theorem dX0_init_4 : decode cX0_init 4 = .ok (.aload_n 0, 1) := by decide +kernel
theorem dX0_init_5 : decode cX0_init 5 = .ok (.new 1, 3) := by decide +kernel
theorem dX0_init_8 : decode cX0_init 8 = .ok (.dup, 1) := by decide +kernel
theorem dX0_init_9 : decode cX0_init 9 = .ok (.invokespecial 11, 3) := by decide +kernel
theorem dX0_init_12 : decode cX0_init 12 = .ok (.putfield 12, 3) := by decide +kernel
theorem dX0_init_15 : decode cX0_init 15 = .ok (.aload_n 0, 1) := by decide +kernel
theorem dX0_init_16 : decode cX0_init 16 = .ok (.new 1, 3) := by decide +kernel
theorem dX0_init_19 : decode cX0_init 19 = .ok (.dup, 1) := by decide +kernel
theorem dX0_init_20 : decode cX0_init 20 = .ok (.invokespecial 11, 3) := by decide +kernel
theorem dX0_init_23 : decode cX0_init 23 = .ok (.putfield 18, 3) := by decide +kernel
theorem dX0_init_26 : decode cX0_init 26 = .ok (.aload_n 0, 1) := by decide +kernel
theorem dX0_init_27 : decode cX0_init 27 = .ok (.new 1, 3) := by decide +kernel
theorem dX0_init_30 : decode cX0_init 30 = .ok (.dup, 1) := by decide +kernel
theorem dX0_init_31 : decode cX0_init 31 = .ok (.invokespecial 11, 3) := by decide +kernel
theorem dX0_init_34 : decode cX0_init 34 = .ok (.putfield 21, 3) := by decide +kernel
theorem dX0_init_37 : decode cX0_init 37 = .ok (.aload_n 0, 1) := by decide +kernel
theorem dX0_init_38 : decode cX0_init 38 = .ok (.new 1, 3) := by decide +kernel
theorem dX0_init_41 : decode cX0_init 41 = .ok (.dup, 1) := by decide +kernel
theorem dX0_init_42 : decode cX0_init 42 = .ok (.invokespecial 11, 3) := by decide +kernel
theorem dX0_init_45 : decode cX0_init 45 = .ok (.putfield 24, 3) := by decide +kernel
theorem dX0_init_48 : decode cX0_init 48 = .ok (.aload_n 0, 1) := by decide +kernel
theorem dX0_init_49 : decode cX0_init 49 = .ok (.bipush 63, 2) := by decide +kernel
theorem dX0_init_51 : decode cX0_init 51 = .ok (.newarray .byte, 2) := by decide +kernel
theorem dX0_init_53 : decode cX0_init 53 = .ok (.putfield 27, 3) := by decide +kernel
theorem dX0_init_56 : decode cX0_init 56 = .ok (.return_, 1) := by decide +kernel
theorem dX0_norm_0 : decode cX0_norm 0 = .ok (.aload_n 0, 1) := by decide +kernel
theorem dX0_norm_1 : decode cX0_norm 1 = .ok (.getfield 12, 3) := by decide +kernel
theorem dX0_norm_4 : decode cX0_norm 4 = .ok (.aload_n 3, 1) := by decide +kernel
theorem dX0_norm_5 : decode cX0_norm 5 = .ok (.aload_n 3, 1) := by decide +kernel
theorem dX0_norm_6 : decode cX0_norm 6 = .ok (.invokevirtual 31, 3) := by decide +kernel
theorem dX0_norm_9 : decode cX0_norm 9 = .ok (.aload_n 0, 1) := by decide +kernel
theorem dX0_norm_10 : decode cX0_norm 10 = .ok (.getfield 12, 3) := by decide +kernel
theorem dX0_norm_13 : decode cX0_norm 13 = .ok (.iload_n 1, 1) := by decide +kernel
theorem dX0_norm_14 : decode cX0_norm 14 = .ok (.iconst 0, 1) := by decide +kernel
theorem dX0_norm_15 : decode cX0_norm 15 = .ok (.invokevirtual 35, 3) := by decide +kernel
theorem dX0_norm_18 : decode cX0_norm 18 = .ok (.aload_n 0, 1) := by decide +kernel
theorem dX0_norm_19 : decode cX0_norm 19 = .ok (.getfield 18, 3) := by decide +kernel
theorem dX0_norm_22 : decode cX0_norm 22 = .ok (.aload_n 2, 1) := by decide +kernel
theorem dX0_norm_23 : decode cX0_norm 23 = .ok (.aload_n 2, 1) := by decide +kernel
theorem dX0_norm_24 : decode cX0_norm 24 = .ok (.invokevirtual 31, 3) := by decide +kernel
theorem dX0_norm_27 : decode cX0_norm 27 = .ok (.aload_n 0, 1) := by decide +kernel
theorem dX0_norm_28 : decode cX0_norm 28 = .ok (.getfield 18, 3) := by decide +kernel
theorem dX0_norm_31 : decode cX0_norm 31 = .ok (.aload_n 0, 1) := by decide +kernel
theorem dX0_norm_32 : decode cX0_norm 32 = .ok (.getfield 12, 3) := by decide +kernel
theorem dX0_norm_35 : decode cX0_norm 35 = .ok (.iconst 1, 1) := by decide +kernel
theorem dX0_norm_36 : decode cX0_norm 36 = .ok (.invokevirtual 39, 3) := by decide +kernel
theorem dX0_norm_39 : decode cX0_norm 39 = .ok (.aload_n 0, 1) := by decide +kernel
theorem dX0_norm_40 : decode cX0_norm 40 = .ok (.getfield 18, 3) := by decide +kernel
theorem dX0_norm_43 : decode cX0_norm 43 = .ok (.areturn, 1) := by decide +kernel
theorem dX0_cross_0 : decode cX0_cross 0 = .ok (.aload_n 0, 1) := by decide +kernel
theorem dX0_cross_1 : decode cX0_cross 1 = .ok (.getfield 12, 3) := by decide +kernel
theorem dX0_cross_4 : decode cX0_cross 4 = .ok (.aload_n 1, 1) := by decide +kernel
theorem dX0_cross_5 : decode cX0_cross 5 = .ok (.aload 4, 2) := by decide +kernel
theorem dX0_cross_7 : decode cX0_cross 7 = .ok (.invokevirtual 31, 3) := by decide +kernel
theorem dX0_cross_10 : decode cX0_cross 10 = .ok (.aload_n 0, 1) := by decide +kernel
theorem dX0_cross_11 : decode cX0_cross 11 = .ok (.getfield 18, 3) := by decide +kernel
theorem dX0_cross_14 : decode cX0_cross 14 = .ok (.aload_n 3, 1) := by decide +kernel
theorem dX0_cross_15 : decode cX0_cross 15 = .ok (.aload_n 2, 1) := by decide +kernel
theorem dX0_cross_16 : decode cX0_cross 16 = .ok (.invokevirtual 31, 3) := by decide +kernel
theorem dX0_cross_19 : decode cX0_cross 19 = .ok (.aload_n 0, 1) := by decide +kernel
theorem dX0_cross_20 : decode cX0_cross 20 = .ok (.getfield 12, 3) := by decide +kernel
theorem dX0_cross_23 : decode cX0_cross 23 = .ok (.aload_n 0, 1) := by decide +kernel
theorem dX0_cross_24 : decode cX0_cross 24 = .ok (.getfield 18, 3) := by decide +kernel
theorem dX0_cross_27 : decode cX0_cross 27 = .ok (.iconst 1, 1) := by decide +kernel
theorem dX0_cross_28 : decode cX0_cross 28 = .ok (.invokevirtual 39, 3) := by decide +kernel
theorem dX0_cross_31 : decode cX0_cross 31 = .ok (.aload_n 0, 1) := by decide +kernel
theorem dX0_cross_32 : decode cX0_cross 32 = .ok (.getfield 12, 3) := by decide +kernel
theorem dX0_cross_35 : decode cX0_cross 35 = .ok (.areturn, 1) := by decide +kernel
theorem dX0_divisor_0 : decode cX0_divisor 0 = .ok (.aload_n 0, 1) := by decide +kernel
theorem dX0_divisor_1 : decode cX0_divisor 1 = .ok (.getfield 12, 3) := by decide +kernel
theorem dX0_divisor_4 : decode cX0_divisor 4 = .ok (.aload_n 1, 1) := by decide +kernel
theorem dX0_divisor_5 : decode cX0_divisor 5 = .ok (.invokevirtual 43, 3) := by decide +kernel
theorem dX0_divisor_8 : decode cX0_divisor 8 = .ok (.aload_n 0, 1) := by decide +kernel
theorem dX0_divisor_9 : decode cX0_divisor 9 = .ok (.getfield 18, 3) := by decide +kernel
theorem dX0_divisor_12 : decode cX0_divisor 12 = .ok (.aload_n 2, 1) := by decide +kernel
theorem dX0_divisor_13 : decode cX0_divisor 13 = .ok (.invokevirtual 43, 3) := by decide +kernel
theorem dX0_divisor_16 : decode cX0_divisor 16 = .ok (.aload_n 0, 1) := by decide +kernel
theorem dX0_divisor_17 : decode cX0_divisor 17 = .ok (.getfield 12, 3) := by decide +kernel
theorem dX0_divisor_20 : decode cX0_divisor 20 = .ok (.astore_n 3, 1) := by decide +kernel
theorem dX0_divisor_21 : decode cX0_divisor 21 = .ok (.aload_n 0, 1) := by decide +kernel
theorem dX0_divisor_22 : decode cX0_divisor 22 = .ok (.getfield 18, 3) := by decide +kernel
theorem dX0_divisor_25 : decode cX0_divisor 25 = .ok (.astore 4, 2) := by decide +kernel
theorem dX0_divisor_27 : decode cX0_divisor 27 = .ok (.iconst 0, 1) := by decide +kernel
theorem dX0_divisor_28 : decode cX0_divisor 28 = .ok (.istore 5, 2) := by decide +kernel
theorem dX0_divisor_30 : decode cX0_divisor 30 = .ok (.iload 5, 2) := by decide +kernel
theorem dX0_divisor_32 : decode cX0_divisor 32 = .ok (.sipush 1008, 3) := by decide +kernel
theorem dX0_divisor_35 : decode cX0_divisor 35 = .ok (.if_icmp .ge 35, 3) := by decide +kernel
theorem dX0_divisor_38 : decode cX0_divisor 38 = .ok (.aload 4, 2) := by decide +kernel
theorem dX0_divisor_40 : decode cX0_divisor 40 = .ok (.invokevirtual 47, 3) := by decide +kernel
theorem dX0_divisor_43 : decode cX0_divisor 43 = .ok (.ifCond .ne 27, 3) := by decide +kernel
theorem dX0_divisor_46 : decode cX0_divisor 46 = .ok (.aload_n 0, 1) := by decide +kernel
theorem dX0_divisor_47 : decode cX0_divisor 47 = .ok (.aload_n 3, 1) := by decide +kernel
theorem dX0_divisor_48 : decode cX0_divisor 48 = .ok (.aload 4, 2) := by decide +kernel
theorem dX0_divisor_50 : decode cX0_divisor 50 = .ok (.invokevirtual 51, 3) := by decide +kernel
theorem dX0_divisor_53 : decode cX0_divisor 53 = .ok (.pop2, 1) := by decide +kernel
theorem dX0_divisor_54 : decode cX0_divisor 54 = .ok (.aload_n 3, 1) := by decide +kernel
theorem dX0_divisor_55 : decode cX0_divisor 55 = .ok (.astore 6, 2) := by decide +kernel
theorem dX0_divisor_57 : decode cX0_divisor 57 = .ok (.aload 4, 2) := by decide +kernel
theorem dX0_divisor_59 : decode cX0_divisor 59 = .ok (.astore_n 3, 1) := by decide +kernel
theorem dX0_divisor_60 : decode cX0_divisor 60 = .ok (.aload 6, 2) := by decide +kernel
theorem dX0_divisor_62 : decode cX0_divisor 62 = .ok (.astore 4, 2) := by decide +kernel
theorem dX0_divisor_64 : decode cX0_divisor 64 = .ok (.iinc 5 1, 3) := by decide +kernel
theorem dX0_divisor_67 : decode cX0_divisor 67 = .ok (.goto (-37), 3) := by decide +kernel
theorem dX0_divisor_70 : decode cX0_divisor 70 = .ok (.aload_n 3, 1) := by decide +kernel
theorem dX0_divisor_71 : decode cX0_divisor 71 = .ok (.areturn, 1) := by decide +kernel
theorem dX0_reduce_0 : decode cX0_reduce 0 = .ok (.aload_n 1, 1) := by decide +kernel
theorem dX0_reduce_1 : decode cX0_reduce 1 = .ok (.invokevirtual 55, 3) := by decide +kernel
theorem dX0_reduce_4 : decode cX0_reduce 4 = .ok (.aload_n 2, 1) := by decide +kernel
theorem dX0_reduce_5 : decode cX0_reduce 5 = .ok (.invokevirtual 55, 3) := by decide +kernel
theorem dX0_reduce_8 : decode cX0_reduce 8 = .ok (.isub, 1) := by decide +kernel
theorem dX0_reduce_9 : decode cX0_reduce 9 = .ok (.istore_n 3, 1) := by decide +kernel
theorem dX0_reduce_10 : decode cX0_reduce 10 = .ok (.aload_n 2, 1) := by decide +kernel
theorem dX0_reduce_11 : decode cX0_reduce 11 = .ok (.invokevirtual 47, 3) := by decide +kernel
theorem dX0_reduce_14 : decode cX0_reduce 14 = .ok (.ifCond .ne 7, 3) := by decide +kernel
theorem dX0_reduce_17 : decode cX0_reduce 17 = .ok (.iload_n 3, 1) := by decide +kernel
theorem dX0_reduce_18 : decode cX0_reduce 18 = .ok (.ifCond .ge 5, 3) := by decide +kernel
theorem dX0_reduce_21 : decode cX0_reduce 21 = .ok (.lconst 0, 1) := by decide +kernel
theorem dX0_reduce_22 : decode cX0_reduce 22 = .ok (.lreturn, 1) := by decide +kernel
theorem dX0_reduce_23 : decode cX0_reduce 23 = .ok (.lconst 0, 1) := by decide +kernel
theorem dX0_reduce_24 : decode cX0_reduce 24 = .ok (.lstore 4, 2) := by decide +kernel
theorem dX0_reduce_26 : decode cX0_reduce 26 = .ok (.aload_n 0, 1) := by decide +kernel
theorem dX0_reduce_27 : decode cX0_reduce 27 = .ok (.getfield 21, 3) := by decide +kernel
theorem dX0_reduce_30 : decode cX0_reduce 30 = .ok (.aload_n 2, 1) := by decide +kernel
theorem dX0_reduce_31 : decode cX0_reduce 31 = .ok (.invokevirtual 43, 3) := by decide +kernel
theorem dX0_reduce_34 : decode cX0_reduce 34 = .ok (.aload_n 0, 1) := by decide +kernel
theorem dX0_reduce_35 : decode cX0_reduce 35 = .ok (.getfield 21, 3) := by decide +kernel
theorem dX0_reduce_38 : decode cX0_reduce 38 = .ok (.iload_n 3, 1) := by decide +kernel
theorem dX0_reduce_39 : decode cX0_reduce 39 = .ok (.invokevirtual 59, 3) := by decide +kernel
theorem dX0_reduce_42 : decode cX0_reduce 42 = .ok (.iload_n 3, 1) := by decide +kernel
theorem dX0_reduce_43 : decode cX0_reduce 43 = .ok (.istore 6, 2) := by decide +kernel
theorem dX0_reduce_45 : decode cX0_reduce 45 = .ok (.iload 6, 2) := by decide +kernel
theorem dX0_reduce_47 : decode cX0_reduce 47 = .ok (.ifCond .lt 51, 3) := by decide +kernel
theorem dX0_reduce_50 : decode cX0_reduce 50 = .ok (.lload 4, 2) := by decide +kernel
theorem dX0_reduce_52 : decode cX0_reduce 52 = .ok (.ldc2_w 63, 3) := by decide +kernel
theorem dX0_reduce_55 : decode cX0_reduce 55 = .ok (.lmul, 1) := by decide +kernel
theorem dX0_reduce_56 : decode cX0_reduce 56 = .ok (.lstore 4, 2) := by decide +kernel
theorem dX0_reduce_58 : decode cX0_reduce 58 = .ok (.aload_n 1, 1) := by decide +kernel
theorem dX0_reduce_59 : decode cX0_reduce 59 = .ok (.aload_n 0, 1) := by decide +kernel
theorem dX0_reduce_60 : decode cX0_reduce 60 = .ok (.getfield 21, 3) := by decide +kernel
theorem dX0_reduce_63 : decode cX0_reduce 63 = .ok (.invokevirtual 65, 3) := by decide +kernel
theorem dX0_reduce_66 : decode cX0_reduce 66 = .ok (.ifCond .lt 17, 3) := by decide +kernel
theorem dX0_reduce_69 : decode cX0_reduce 69 = .ok (.aload_n 1, 1) := by decide +kernel
theorem dX0_reduce_70 : decode cX0_reduce 70 = .ok (.aload_n 0, 1) := by decide +kernel
theorem dX0_reduce_71 : decode cX0_reduce 71 = .ok (.getfield 21, 3) := by decide +kernel
theorem dX0_reduce_74 : decode cX0_reduce 74 = .ok (.invokevirtual 69, 3) := by decide +kernel
theorem dX0_reduce_77 : decode cX0_reduce 77 = .ok (.lload 4, 2) := by decide +kernel
theorem dX0_reduce_79 : decode cX0_reduce 79 = .ok (.lconst 1, 1) := by decide +kernel
theorem dX0_reduce_80 : decode cX0_reduce 80 = .ok (.ladd, 1) := by decide +kernel
theorem dX0_reduce_81 : decode cX0_reduce 81 = .ok (.lstore 4, 2) := by decide +kernel
theorem dX0_reduce_83 : decode cX0_reduce 83 = .ok (.aload_n 0, 1) := by decide +kernel
theorem dX0_reduce_84 : decode cX0_reduce 84 = .ok (.getfield 21, 3) := by decide +kernel
theorem dX0_reduce_87 : decode cX0_reduce 87 = .ok (.iconst 2, 1) := by decide +kernel
theorem dX0_reduce_88 : decode cX0_reduce 88 = .ok (.invokevirtual 72, 3) := by decide +kernel
theorem dX0_reduce_91 : decode cX0_reduce 91 = .ok (.pop, 1) := by decide +kernel
theorem dX0_reduce_92 : decode cX0_reduce 92 = .ok (.iinc 6 (-1), 3) := by decide +kernel
theorem dX0_reduce_95 : decode cX0_reduce 95 = .ok (.goto (-50), 3) := by decide +kernel
theorem dX0_reduce_98 : decode cX0_reduce 98 = .ok (.lload 4, 2) := by decide +kernel
theorem dX0_reduce_100 : decode cX0_reduce 100 = .ok (.lreturn, 1) := by decide +kernel
theorem dX0_quotient_0 : decode cX0_quotient 0 = .ok (.aload_n 0, 1) := by decide +kernel
theorem dX0_quotient_1 : decode cX0_quotient 1 = .ok (.getfield 12, 3) := by decide +kernel
theorem dX0_quotient_4 : decode cX0_quotient 4 = .ok (.aload_n 1, 1) := by decide +kernel
theorem dX0_quotient_5 : decode cX0_quotient 5 = .ok (.invokevirtual 43, 3) := by decide +kernel
theorem dX0_quotient_8 : decode cX0_quotient 8 = .ok (.iconst 0, 1) := by decide +kernel
theorem dX0_quotient_9 : decode cX0_quotient 9 = .ok (.istore 4, 2) := by decide +kernel
theorem dX0_quotient_11 : decode cX0_quotient 11 = .ok (.iload 4, 2) := by decide +kernel
theorem dX0_quotient_13 : decode cX0_quotient 13 = .ok (.iload_n 3, 1) := by decide +kernel
theorem dX0_quotient_14 : decode cX0_quotient 14 = .ok (.if_icmp .ge 19, 3) := by decide +kernel
theorem dX0_quotient_17 : decode cX0_quotient 17 = .ok (.aload_n 0, 1) := by decide +kernel
theorem dX0_quotient_18 : decode cX0_quotient 18 = .ok (.getfield 12, 3) := by decide +kernel
theorem dX0_quotient_21 : decode cX0_quotient 21 = .ok (.bipush 10, 2) := by decide +kernel
theorem dX0_quotient_23 : decode cX0_quotient 23 = .ok (.iconst 0, 1) := by decide +kernel
theorem dX0_quotient_24 : decode cX0_quotient 24 = .ok (.invokevirtual 35, 3) := by decide +kernel
theorem dX0_quotient_27 : decode cX0_quotient 27 = .ok (.iinc 4 1, 3) := by decide +kernel
theorem dX0_quotient_30 : decode cX0_quotient 30 = .ok (.goto (-19), 3) := by decide +kernel
theorem dX0_quotient_33 : decode cX0_quotient 33 = .ok (.aload_n 0, 1) := by decide +kernel
theorem dX0_quotient_34 : decode cX0_quotient 34 = .ok (.aload_n 0, 1) := by decide +kernel
theorem dX0_quotient_35 : decode cX0_quotient 35 = .ok (.getfield 12, 3) := by decide +kernel
theorem dX0_quotient_38 : decode cX0_quotient 38 = .ok (.aload_n 2, 1) := by decide +kernel
theorem dX0_quotient_39 : decode cX0_quotient 39 = .ok (.invokevirtual 51, 3) := by decide +kernel
theorem dX0_quotient_42 : decode cX0_quotient 42 = .ok (.lreturn, 1) := by decide +kernel
theorem dX0_isWithin_0 : decode cX0_isWithin 0 = .ok (.aload_n 0, 1) := by decide +kernel
theorem dX0_isWithin_1 : decode cX0_isWithin 1 = .ok (.iload_n 1, 1) := by decide +kernel
theorem dX0_isWithin_2 : decode cX0_isWithin 2 = .ok (.aload_n 2, 1) := by decide +kernel
theorem dX0_isWithin_3 : decode cX0_isWithin 3 = .ok (.aload_n 3, 1) := by decide +kernel
theorem dX0_isWithin_4 : decode cX0_isWithin 4 = .ok (.invokevirtual 76, 3) := by decide +kernel
theorem dX0_isWithin_7 : decode cX0_isWithin 7 = .ok (.astore 6, 2) := by decide +kernel
theorem dX0_isWithin_9 : decode cX0_isWithin 9 = .ok (.aload 6, 2) := by decide +kernel
theorem dX0_isWithin_11 : decode cX0_isWithin 11 = .ok (.invokevirtual 80, 3) := by decide +kernel
theorem dX0_isWithin_14 : decode cX0_isWithin 14 = .ok (.aload_n 0, 1) := by decide +kernel
theorem dX0_isWithin_15 : decode cX0_isWithin 15 = .ok (.getfield 12, 3) := by decide +kernel
theorem dX0_isWithin_18 : decode cX0_isWithin 18 = .ok (.aload 6, 2) := by decide +kernel
theorem dX0_isWithin_20 : decode cX0_isWithin 20 = .ok (.aload 4, 2) := by decide +kernel
theorem dX0_isWithin_22 : decode cX0_isWithin 22 = .ok (.invokevirtual 31, 3) := by decide +kernel
theorem dX0_isWithin_25 : decode cX0_isWithin 25 = .ok (.aload_n 0, 1) := by decide +kernel
theorem dX0_isWithin_26 : decode cX0_isWithin 26 = .ok (.getfield 12, 3) := by decide +kernel
theorem dX0_isWithin_29 : decode cX0_isWithin 29 = .ok (.iload 5, 2) := by decide +kernel
theorem dX0_isWithin_31 : decode cX0_isWithin 31 = .ok (.iconst 0, 1) := by decide +kernel
theorem dX0_isWithin_32 : decode cX0_isWithin 32 = .ok (.invokevirtual 35, 3) := by decide +kernel
theorem dX0_isWithin_35 : decode cX0_isWithin 35 = .ok (.aload_n 0, 1) := by decide +kernel
theorem dX0_isWithin_36 : decode cX0_isWithin 36 = .ok (.getfield 12, 3) := by decide +kernel
theorem dX0_isWithin_39 : decode cX0_isWithin 39 = .ok (.aload_n 2, 1) := by decide +kernel
theorem dX0_isWithin_40 : decode cX0_isWithin 40 = .ok (.iconst 1, 1) := by decide +kernel
theorem dX0_isWithin_41 : decode cX0_isWithin 41 = .ok (.invokevirtual 39, 3) := by decide +kernel
theorem dX0_isWithin_44 : decode cX0_isWithin 44 = .ok (.aload_n 0, 1) := by decide +kernel
theorem dX0_isWithin_45 : decode cX0_isWithin 45 = .ok (.getfield 12, 3) := by decide +kernel
theorem dX0_isWithin_48 : decode cX0_isWithin 48 = .ok (.invokevirtual 83, 3) := by decide +kernel
theorem dX0_isWithin_51 : decode cX0_isWithin 51 = .ok (.ifCond .eq 5, 3) := by decide +kernel
theorem dX0_isWithin_54 : decode cX0_isWithin 54 = .ok (.iconst 1, 1) := by decide +kernel
theorem dX0_isWithin_55 : decode cX0_isWithin 55 = .ok (.ireturn, 1) := by decide +kernel
theorem dX0_isWithin_56 : decode cX0_isWithin 56 = .ok (.aload_n 0, 1) := by decide +kernel
theorem dX0_isWithin_57 : decode cX0_isWithin 57 = .ok (.getfield 18, 3) := by decide +kernel
theorem dX0_isWithin_60 : decode cX0_isWithin 60 = .ok (.aload_n 0, 1) := by decide +kernel
theorem dX0_isWithin_61 : decode cX0_isWithin 61 = .ok (.getfield 12, 3) := by decide +kernel
theorem dX0_isWithin_64 : decode cX0_isWithin 64 = .ok (.aload_n 0, 1) := by decide +kernel
theorem dX0_isWithin_65 : decode cX0_isWithin 65 = .ok (.getfield 12, 3) := by decide +kernel
theorem dX0_isWithin_68 : decode cX0_isWithin 68 = .ok (.invokevirtual 31, 3) := by decide +kernel
theorem dX0_isWithin_71 : decode cX0_isWithin 71 = .ok (.aload_n 0, 1) := by decide +kernel
theorem dX0_isWithin_72 : decode cX0_isWithin 72 = .ok (.getfield 21, 3) := by decide +kernel
theorem dX0_isWithin_75 : decode cX0_isWithin 75 = .ok (.aload_n 3, 1) := by decide +kernel
theorem dX0_isWithin_76 : decode cX0_isWithin 76 = .ok (.aload_n 3, 1) := by decide +kernel
theorem dX0_isWithin_77 : decode cX0_isWithin 77 = .ok (.invokevirtual 31, 3) := by decide +kernel
theorem dX0_isWithin_80 : decode cX0_isWithin 80 = .ok (.aload_n 0, 1) := by decide +kernel
theorem dX0_isWithin_81 : decode cX0_isWithin 81 = .ok (.getfield 21, 3) := by decide +kernel
theorem dX0_isWithin_84 : decode cX0_isWithin 84 = .ok (.iload_n 1, 1) := by decide +kernel
theorem dX0_isWithin_85 : decode cX0_isWithin 85 = .ok (.iconst 0, 1) := by decide +kernel
theorem dX0_isWithin_86 : decode cX0_isWithin 86 = .ok (.invokevirtual 35, 3) := by decide +kernel
theorem dX0_isWithin_89 : decode cX0_isWithin 89 = .ok (.aload_n 0, 1) := by decide +kernel
theorem dX0_isWithin_90 : decode cX0_isWithin 90 = .ok (.getfield 18, 3) := by decide +kernel
theorem dX0_isWithin_93 : decode cX0_isWithin 93 = .ok (.aload_n 0, 1) := by decide +kernel
theorem dX0_isWithin_94 : decode cX0_isWithin 94 = .ok (.getfield 21, 3) := by decide +kernel
theorem dX0_isWithin_97 : decode cX0_isWithin 97 = .ok (.invokevirtual 65, 3) := by decide +kernel
theorem dX0_isWithin_100 : decode cX0_isWithin 100 = .ok (.ifCond .ge 7, 3) := by decide +kernel
theorem dX0_isWithin_103 : decode cX0_isWithin 103 = .ok (.iconst 1, 1) := by decide +kernel
theorem dX0_isWithin_104 : decode cX0_isWithin 104 = .ok (.goto 4, 3) := by decide +kernel
theorem dX0_isWithin_107 : decode cX0_isWithin 107 = .ok (.iconst 0, 1) := by decide +kernel
theorem dX0_isWithin_108 : decode cX0_isWithin 108 = .ok (.ireturn, 1) := by decide +kernel
theorem dX0_multiply_0 : decode cX0_multiply 0 = .ok (.aload_n 3, 1) := by decide +kernel
theorem dX0_multiply_1 : decode cX0_multiply 1 = .ok (.aload_n 1, 1) := by decide +kernel
theorem dX0_multiply_2 : decode cX0_multiply 2 = .ok (.getfield 86, 3) := by decide +kernel
theorem dX0_multiply_5 : decode cX0_multiply 5 = .ok (.putfield 86, 3) := by decide +kernel
theorem dX0_multiply_8 : decode cX0_multiply 8 = .ok (.aload_n 3, 1) := by decide +kernel
theorem dX0_multiply_9 : decode cX0_multiply 9 = .ok (.getfield 92, 3) := by decide +kernel
theorem dX0_multiply_12 : decode cX0_multiply 12 = .ok (.aload_n 1, 1) := by decide +kernel
theorem dX0_multiply_13 : decode cX0_multiply 13 = .ok (.getfield 95, 3) := by decide +kernel
theorem dX0_multiply_16 : decode cX0_multiply 16 = .ok (.aload_n 2, 1) := by decide +kernel
theorem dX0_multiply_17 : decode cX0_multiply 17 = .ok (.getfield 95, 3) := by decide +kernel
theorem dX0_multiply_20 : decode cX0_multiply 20 = .ok (.invokevirtual 31, 3) := by decide +kernel
theorem dX0_multiply_23 : decode cX0_multiply 23 = .ok (.aload_n 3, 1) := by decide +kernel
theorem dX0_multiply_24 : decode cX0_multiply 24 = .ok (.getfield 92, 3) := by decide +kernel
theorem dX0_multiply_27 : decode cX0_multiply 27 = .ok (.aload_n 1, 1) := by decide +kernel
theorem dX0_multiply_28 : decode cX0_multiply 28 = .ok (.getfield 86, 3) := by decide +kernel
theorem dX0_multiply_31 : decode cX0_multiply 31 = .ok (.iconst 0, 1) := by decide +kernel
theorem dX0_multiply_32 : decode cX0_multiply 32 = .ok (.invokevirtual 35, 3) := by decide +kernel
theorem dX0_multiply_35 : decode cX0_multiply 35 = .ok (.aload_n 0, 1) := by decide +kernel
theorem dX0_multiply_36 : decode cX0_multiply 36 = .ok (.getfield 12, 3) := by decide +kernel
theorem dX0_multiply_39 : decode cX0_multiply 39 = .ok (.aload_n 1, 1) := by decide +kernel
theorem dX0_multiply_40 : decode cX0_multiply 40 = .ok (.getfield 92, 3) := by decide +kernel
theorem dX0_multiply_43 : decode cX0_multiply 43 = .ok (.aload_n 2, 1) := by decide +kernel
theorem dX0_multiply_44 : decode cX0_multiply 44 = .ok (.getfield 92, 3) := by decide +kernel
theorem dX0_multiply_47 : decode cX0_multiply 47 = .ok (.invokevirtual 31, 3) := by decide +kernel
theorem dX0_multiply_50 : decode cX0_multiply 50 = .ok (.aload_n 3, 1) := by decide +kernel
theorem dX0_multiply_51 : decode cX0_multiply 51 = .ok (.getfield 92, 3) := by decide +kernel
theorem dX0_multiply_54 : decode cX0_multiply 54 = .ok (.aload_n 0, 1) := by decide +kernel
theorem dX0_multiply_55 : decode cX0_multiply 55 = .ok (.getfield 12, 3) := by decide +kernel
theorem dX0_multiply_58 : decode cX0_multiply 58 = .ok (.iconst 0, 1) := by decide +kernel
theorem dX0_multiply_59 : decode cX0_multiply 59 = .ok (.invokevirtual 39, 3) := by decide +kernel
theorem dX0_multiply_62 : decode cX0_multiply 62 = .ok (.aload_n 3, 1) := by decide +kernel
theorem dX0_multiply_63 : decode cX0_multiply 63 = .ok (.getfield 95, 3) := by decide +kernel
theorem dX0_multiply_66 : decode cX0_multiply 66 = .ok (.aload_n 1, 1) := by decide +kernel
theorem dX0_multiply_67 : decode cX0_multiply 67 = .ok (.getfield 92, 3) := by decide +kernel
theorem dX0_multiply_70 : decode cX0_multiply 70 = .ok (.aload_n 2, 1) := by decide +kernel
theorem dX0_multiply_71 : decode cX0_multiply 71 = .ok (.getfield 95, 3) := by decide +kernel
theorem dX0_multiply_74 : decode cX0_multiply 74 = .ok (.invokevirtual 31, 3) := by decide +kernel
theorem dX0_multiply_77 : decode cX0_multiply 77 = .ok (.aload_n 0, 1) := by decide +kernel
theorem dX0_multiply_78 : decode cX0_multiply 78 = .ok (.getfield 12, 3) := by decide +kernel
theorem dX0_multiply_81 : decode cX0_multiply 81 = .ok (.aload_n 1, 1) := by decide +kernel
theorem dX0_multiply_82 : decode cX0_multiply 82 = .ok (.getfield 95, 3) := by decide +kernel
theorem dX0_multiply_85 : decode cX0_multiply 85 = .ok (.aload_n 2, 1) := by decide +kernel
theorem dX0_multiply_86 : decode cX0_multiply 86 = .ok (.getfield 92, 3) := by decide +kernel
theorem dX0_multiply_89 : decode cX0_multiply 89 = .ok (.invokevirtual 31, 3) := by decide +kernel
theorem dX0_multiply_92 : decode cX0_multiply 92 = .ok (.aload_n 3, 1) := by decide +kernel
theorem dX0_multiply_93 : decode cX0_multiply 93 = .ok (.getfield 95, 3) := by decide +kernel
theorem dX0_multiply_96 : decode cX0_multiply 96 = .ok (.aload_n 0, 1) := by decide +kernel
theorem dX0_multiply_97 : decode cX0_multiply 97 = .ok (.getfield 12, 3) := by decide +kernel
theorem dX0_multiply_100 : decode cX0_multiply 100 = .ok (.iconst 0, 1) := by decide +kernel
theorem dX0_multiply_101 : decode cX0_multiply 101 = .ok (.invokevirtual 39, 3) := by decide +kernel
theorem dX0_multiply_104 : decode cX0_multiply 104 = .ok (.return_, 1) := by decide +kernel
theorem dX0_longText_0 : decode cX0_longText 0 = .ok (.aload_n 0, 1) := by decide +kernel
theorem dX0_longText_1 : decode cX0_longText 1 = .ok (.getfield 12, 3) := by decide +kernel
theorem dX0_longText_4 : decode cX0_longText 4 = .ok (.lload_n 1, 1) := by decide +kernel
theorem dX0_longText_5 : decode cX0_longText 5 = .ok (.invokevirtual 98, 3) := by decide +kernel
theorem dX0_longText_8 : decode cX0_longText 8 = .ok (.aload_n 0, 1) := by decide +kernel
theorem dX0_longText_9 : decode cX0_longText 9 = .ok (.aload_n 0, 1) := by decide +kernel
theorem dX0_longText_10 : decode cX0_longText 10 = .ok (.getfield 12, 3) := by decide +kernel
theorem dX0_longText_13 : decode cX0_longText 13 = .ok (.bipush 10, 2) := by decide +kernel
theorem dX0_longText_15 : decode cX0_longText 15 = .ok (.invokevirtual 102, 3) := by decide +kernel
theorem dX0_longText_18 : decode cX0_longText 18 = .ok (.areturn, 1) := by decide +kernel
theorem dX0_text_0 : decode cX0_text 0 = .ok (.new 106, 3) := by decide +kernel
theorem dX0_text_3 : decode cX0_text 3 = .ok (.dup, 1) := by decide +kernel
theorem dX0_text_4 : decode cX0_text 4 = .ok (.invokespecial 108, 3) := by decide +kernel
theorem dX0_text_7 : decode cX0_text 7 = .ok (.astore_n 3, 1) := by decide +kernel
theorem dX0_text_8 : decode cX0_text 8 = .ok (.aload_n 0, 1) := by decide +kernel
theorem dX0_text_9 : decode cX0_text 9 = .ok (.aload_n 3, 1) := by decide +kernel
theorem dX0_text_10 : decode cX0_text 10 = .ok (.aload_n 1, 1) := by decide +kernel
theorem dX0_text_11 : decode cX0_text 11 = .ok (.iload_n 2, 1) := by decide +kernel
theorem dX0_text_12 : decode cX0_text 12 = .ok (.invokevirtual 109, 3) := by decide +kernel
theorem dX0_text_15 : decode cX0_text 15 = .ok (.aload_n 3, 1) := by decide +kernel
theorem dX0_text_16 : decode cX0_text 16 = .ok (.invokevirtual 113, 3) := by decide +kernel
theorem dX0_text_19 : decode cX0_text 19 = .ok (.areturn, 1) := by decide +kernel
theorem dX0_write_0 : decode cX0_write 0 = .ok (.aload_n 1, 1) := by decide +kernel
theorem dX0_write_1 : decode cX0_write 1 = .ok (.iconst 0, 1) := by decide +kernel
theorem dX0_write_2 : decode cX0_write 2 = .ok (.invokevirtual 117, 3) := by decide +kernel
theorem dX0_write_5 : decode cX0_write 5 = .ok (.aload_n 0, 1) := by decide +kernel
theorem dX0_write_6 : decode cX0_write 6 = .ok (.getfield 24, 3) := by decide +kernel
theorem dX0_write_9 : decode cX0_write 9 = .ok (.aload_n 2, 1) := by decide +kernel
theorem dX0_write_10 : decode cX0_write 10 = .ok (.invokevirtual 43, 3) := by decide +kernel
theorem dX0_write_13 : decode cX0_write 13 = .ok (.iconst 0, 1) := by decide +kernel
theorem dX0_write_14 : decode cX0_write 14 = .ok (.istore 4, 2) := by decide +kernel
theorem dX0_write_16 : decode cX0_write 16 = .ok (.iload 4, 2) := by decide +kernel
theorem dX0_write_18 : decode cX0_write 18 = .ok (.sipush 504, 3) := by decide +kernel
theorem dX0_write_21 : decode cX0_write 21 = .ok (.if_icmp .ge 63, 3) := by decide +kernel
theorem dX0_write_24 : decode cX0_write 24 = .ok (.iload 4, 2) := by decide +kernel
theorem dX0_write_26 : decode cX0_write 26 = .ok (.ifCond .eq 13, 3) := by decide +kernel
theorem dX0_write_29 : decode cX0_write 29 = .ok (.aload_n 0, 1) := by decide +kernel
theorem dX0_write_30 : decode cX0_write 30 = .ok (.getfield 24, 3) := by decide +kernel
theorem dX0_write_33 : decode cX0_write 33 = .ok (.invokevirtual 47, 3) := by decide +kernel
theorem dX0_write_36 : decode cX0_write 36 = .ok (.ifCond .ne 48, 3) := by decide +kernel
theorem dX0_write_39 : decode cX0_write 39 = .ok (.aload_n 0, 1) := by decide +kernel
theorem dX0_write_40 : decode cX0_write 40 = .ok (.getfield 24, 3) := by decide +kernel
theorem dX0_write_43 : decode cX0_write 43 = .ok (.iload_n 3, 1) := by decide +kernel
theorem dX0_write_44 : decode cX0_write 44 = .ok (.invokevirtual 72, 3) := by decide +kernel
theorem dX0_write_47 : decode cX0_write 47 = .ok (.istore 5, 2) := by decide +kernel
theorem dX0_write_49 : decode cX0_write 49 = .ok (.aload_n 1, 1) := by decide +kernel
theorem dX0_write_50 : decode cX0_write 50 = .ok (.iload 5, 2) := by decide +kernel
theorem dX0_write_52 : decode cX0_write 52 = .ok (.bipush 10, 2) := by decide +kernel
theorem dX0_write_54 : decode cX0_write 54 = .ok (.if_icmp .ge 11, 3) := by decide +kernel
theorem dX0_write_57 : decode cX0_write 57 = .ok (.bipush 48, 2) := by decide +kernel
theorem dX0_write_59 : decode cX0_write 59 = .ok (.iload 5, 2) := by decide +kernel
theorem dX0_write_61 : decode cX0_write 61 = .ok (.iadd, 1) := by decide +kernel
theorem dX0_write_62 : decode cX0_write 62 = .ok (.goto 11, 3) := by decide +kernel
theorem dX0_write_65 : decode cX0_write 65 = .ok (.bipush 97, 2) := by decide +kernel
theorem dX0_write_67 : decode cX0_write 67 = .ok (.iload 5, 2) := by decide +kernel
theorem dX0_write_69 : decode cX0_write 69 = .ok (.iadd, 1) := by decide +kernel
theorem dX0_write_70 : decode cX0_write 70 = .ok (.bipush 10, 2) := by decide +kernel
theorem dX0_write_72 : decode cX0_write 72 = .ok (.isub, 1) := by decide +kernel
theorem dX0_write_73 : decode cX0_write 73 = .ok (.i2c, 1) := by decide +kernel
theorem dX0_write_74 : decode cX0_write 74 = .ok (.invokevirtual 120, 3) := by decide +kernel
theorem dX0_write_77 : decode cX0_write 77 = .ok (.pop, 1) := by decide +kernel
theorem dX0_write_78 : decode cX0_write 78 = .ok (.iinc 4 1, 3) := by decide +kernel
theorem dX0_write_81 : decode cX0_write 81 = .ok (.goto (-65), 3) := by decide +kernel
theorem dX0_write_84 : decode cX0_write 84 = .ok (.aload_n 2, 1) := by decide +kernel
theorem dX0_write_85 : decode cX0_write 85 = .ok (.invokevirtual 83, 3) := by decide +kernel
theorem dX0_write_88 : decode cX0_write 88 = .ok (.ifCond .eq 10, 3) := by decide +kernel
theorem dX0_write_91 : decode cX0_write 91 = .ok (.aload_n 1, 1) := by decide +kernel
theorem dX0_write_92 : decode cX0_write 92 = .ok (.bipush 45, 2) := by decide +kernel
theorem dX0_write_94 : decode cX0_write 94 = .ok (.invokevirtual 120, 3) := by decide +kernel
theorem dX0_write_97 : decode cX0_write 97 = .ok (.pop, 1) := by decide +kernel
theorem dX0_write_98 : decode cX0_write 98 = .ok (.aload_n 1, 1) := by decide +kernel
theorem dX0_write_99 : decode cX0_write 99 = .ok (.invokevirtual 124, 3) := by decide +kernel
theorem dX0_write_102 : decode cX0_write 102 = .ok (.pop, 1) := by decide +kernel
theorem dX0_write_103 : decode cX0_write 103 = .ok (.return_, 1) := by decide +kernel
theorem dX0_areReadFromText_0 : decode cX0_areReadFromText 0 = .ok (.new 106, 3) := by decide +kernel
theorem dX0_areReadFromText_3 : decode cX0_areReadFromText 3 = .ok (.dup, 1) := by decide +kernel
theorem dX0_areReadFromText_4 : decode cX0_areReadFromText 4 = .ok (.invokespecial 108, 3) := by decide +kernel
theorem dX0_areReadFromText_7 : decode cX0_areReadFromText 7 = .ok (.astore 4, 2) := by decide +kernel
theorem dX0_areReadFromText_9 : decode cX0_areReadFromText 9 = .ok (.aload_n 0, 1) := by decide +kernel
theorem dX0_areReadFromText_10 : decode cX0_areReadFromText 10 = .ok (.aload 4, 2) := by decide +kernel
theorem dX0_areReadFromText_12 : decode cX0_areReadFromText 12 = .ok (.aload_n 1, 1) := by decide +kernel
theorem dX0_areReadFromText_13 : decode cX0_areReadFromText 13 = .ok (.iload_n 3, 1) := by decide +kernel
theorem dX0_areReadFromText_14 : decode cX0_areReadFromText 14 = .ok (.invokevirtual 109, 3) := by decide +kernel
theorem dX0_areReadFromText_17 : decode cX0_areReadFromText 17 = .ok (.aload_n 0, 1) := by decide +kernel
theorem dX0_areReadFromText_18 : decode cX0_areReadFromText 18 = .ok (.aload 4, 2) := by decide +kernel
theorem dX0_areReadFromText_20 : decode cX0_areReadFromText 20 = .ok (.aload_n 1, 1) := by decide +kernel
theorem dX0_areReadFromText_21 : decode cX0_areReadFromText 21 = .ok (.iload_n 3, 1) := by decide +kernel
theorem dX0_areReadFromText_22 : decode cX0_areReadFromText 22 = .ok (.invokevirtual 128, 3) := by decide +kernel
theorem dX0_areReadFromText_25 : decode cX0_areReadFromText 25 = .ok (.istore 5, 2) := by decide +kernel
theorem dX0_areReadFromText_27 : decode cX0_areReadFromText 27 = .ok (.aload_n 0, 1) := by decide +kernel
theorem dX0_areReadFromText_28 : decode cX0_areReadFromText 28 = .ok (.aload 4, 2) := by decide +kernel
theorem dX0_areReadFromText_30 : decode cX0_areReadFromText 30 = .ok (.aload_n 2, 1) := by decide +kernel
theorem dX0_areReadFromText_31 : decode cX0_areReadFromText 31 = .ok (.iload_n 3, 1) := by decide +kernel
theorem dX0_areReadFromText_32 : decode cX0_areReadFromText 32 = .ok (.invokevirtual 109, 3) := by decide +kernel
theorem dX0_areReadFromText_35 : decode cX0_areReadFromText 35 = .ok (.iload 5, 2) := by decide +kernel
theorem dX0_areReadFromText_37 : decode cX0_areReadFromText 37 = .ok (.ifCond .eq 18, 3) := by decide +kernel
theorem dX0_areReadFromText_40 : decode cX0_areReadFromText 40 = .ok (.aload_n 0, 1) := by decide +kernel
theorem dX0_areReadFromText_41 : decode cX0_areReadFromText 41 = .ok (.aload 4, 2) := by decide +kernel
theorem dX0_areReadFromText_43 : decode cX0_areReadFromText 43 = .ok (.aload_n 2, 1) := by decide +kernel
theorem dX0_areReadFromText_44 : decode cX0_areReadFromText 44 = .ok (.iload_n 3, 1) := by decide +kernel
theorem dX0_areReadFromText_45 : decode cX0_areReadFromText 45 = .ok (.invokevirtual 128, 3) := by decide +kernel
theorem dX0_areReadFromText_48 : decode cX0_areReadFromText 48 = .ok (.ifCond .eq 7, 3) := by decide +kernel
theorem dX0_areReadFromText_51 : decode cX0_areReadFromText 51 = .ok (.iconst 1, 1) := by decide +kernel
theorem dX0_areReadFromText_52 : decode cX0_areReadFromText 52 = .ok (.goto 4, 3) := by decide +kernel
theorem dX0_areReadFromText_55 : decode cX0_areReadFromText 55 = .ok (.iconst 0, 1) := by decide +kernel
theorem dX0_areReadFromText_56 : decode cX0_areReadFromText 56 = .ok (.ireturn, 1) := by decide +kernel
theorem dX0_isReadFrom_0 : decode cX0_isReadFrom 0 = .ok (.aload_n 0, 1) := by decide +kernel
theorem dX0_isReadFrom_1 : decode cX0_isReadFrom 1 = .ok (.getfield 12, 3) := by decide +kernel
theorem dX0_isReadFrom_4 : decode cX0_isReadFrom 4 = .ok (.lconst 0, 1) := by decide +kernel
theorem dX0_isReadFrom_5 : decode cX0_isReadFrom 5 = .ok (.invokevirtual 98, 3) := by decide +kernel
theorem dX0_isReadFrom_8 : decode cX0_isReadFrom 8 = .ok (.iconst 0, 1) := by decide +kernel
theorem dX0_isReadFrom_9 : decode cX0_isReadFrom 9 = .ok (.istore 4, 2) := by decide +kernel
theorem dX0_isReadFrom_11 : decode cX0_isReadFrom 11 = .ok (.iload 4, 2) := by decide +kernel
theorem dX0_isReadFrom_13 : decode cX0_isReadFrom 13 = .ok (.aload_n 1, 1) := by decide +kernel
theorem dX0_isReadFrom_14 : decode cX0_isReadFrom 14 = .ok (.invokevirtual 132, 3) := by decide +kernel
theorem dX0_isReadFrom_17 : decode cX0_isReadFrom 17 = .ok (.if_icmp .ge 48, 3) := by decide +kernel
theorem dX0_isReadFrom_20 : decode cX0_isReadFrom 20 = .ok (.aload_n 1, 1) := by decide +kernel
theorem dX0_isReadFrom_21 : decode cX0_isReadFrom 21 = .ok (.iload 4, 2) := by decide +kernel
theorem dX0_isReadFrom_23 : decode cX0_isReadFrom 23 = .ok (.invokevirtual 135, 3) := by decide +kernel
theorem dX0_isReadFrom_26 : decode cX0_isReadFrom 26 = .ok (.istore 5, 2) := by decide +kernel
theorem dX0_isReadFrom_28 : decode cX0_isReadFrom 28 = .ok (.aload_n 0, 1) := by decide +kernel
theorem dX0_isReadFrom_29 : decode cX0_isReadFrom 29 = .ok (.getfield 12, 3) := by decide +kernel
theorem dX0_isReadFrom_32 : decode cX0_isReadFrom 32 = .ok (.iload_n 3, 1) := by decide +kernel
theorem dX0_isReadFrom_33 : decode cX0_isReadFrom 33 = .ok (.iload 5, 2) := by decide +kernel
theorem dX0_isReadFrom_35 : decode cX0_isReadFrom 35 = .ok (.bipush 57, 2) := by decide +kernel
theorem dX0_isReadFrom_37 : decode cX0_isReadFrom 37 = .ok (.if_icmp .gt 11, 3) := by decide +kernel
theorem dX0_isReadFrom_40 : decode cX0_isReadFrom 40 = .ok (.iload 5, 2) := by decide +kernel
theorem dX0_isReadFrom_42 : decode cX0_isReadFrom 42 = .ok (.bipush 48, 2) := by decide +kernel
theorem dX0_isReadFrom_44 : decode cX0_isReadFrom 44 = .ok (.isub, 1) := by decide +kernel
theorem dX0_isReadFrom_45 : decode cX0_isReadFrom 45 = .ok (.goto 11, 3) := by decide +kernel
theorem dX0_isReadFrom_48 : decode cX0_isReadFrom 48 = .ok (.iload 5, 2) := by decide +kernel
theorem dX0_isReadFrom_50 : decode cX0_isReadFrom 50 = .ok (.bipush 97, 2) := by decide +kernel
theorem dX0_isReadFrom_52 : decode cX0_isReadFrom 52 = .ok (.isub, 1) := by decide +kernel
theorem dX0_isReadFrom_53 : decode cX0_isReadFrom 53 = .ok (.bipush 10, 2) := by decide +kernel
theorem dX0_isReadFrom_55 : decode cX0_isReadFrom 55 = .ok (.iadd, 1) := by decide +kernel
theorem dX0_isReadFrom_56 : decode cX0_isReadFrom 56 = .ok (.invokevirtual 35, 3) := by decide +kernel
theorem dX0_isReadFrom_59 : decode cX0_isReadFrom 59 = .ok (.iinc 4 1, 3) := by decide +kernel
theorem dX0_isReadFrom_62 : decode cX0_isReadFrom 62 = .ok (.goto (-51), 3) := by decide +kernel
theorem dX0_isReadFrom_65 : decode cX0_isReadFrom 65 = .ok (.aload_n 0, 1) := by decide +kernel
theorem dX0_isReadFrom_66 : decode cX0_isReadFrom 66 = .ok (.getfield 12, 3) := by decide +kernel
theorem dX0_isReadFrom_69 : decode cX0_isReadFrom 69 = .ok (.aload_n 2, 1) := by decide +kernel
theorem dX0_isReadFrom_70 : decode cX0_isReadFrom 70 = .ok (.invokevirtual 139, 3) := by decide +kernel
theorem dX0_isReadFrom_73 : decode cX0_isReadFrom 73 = .ok (.ifCond .ne 7, 3) := by decide +kernel
theorem dX0_isReadFrom_76 : decode cX0_isReadFrom 76 = .ok (.iconst 1, 1) := by decide +kernel
theorem dX0_isReadFrom_77 : decode cX0_isReadFrom 77 = .ok (.goto 4, 3) := by decide +kernel
theorem dX0_isReadFrom_80 : decode cX0_isReadFrom 80 = .ok (.iconst 0, 1) := by decide +kernel
theorem dX0_isReadFrom_81 : decode cX0_isReadFrom 81 = .ok (.ireturn, 1) := by decide +kernel
theorem dX0_isReadFromBytes_0 : decode cX0_isReadFromBytes 0 = .ok (.aload_n 0, 1) := by decide +kernel
theorem dX0_isReadFromBytes_1 : decode cX0_isReadFromBytes 1 = .ok (.getfield 24, 3) := by decide +kernel
theorem dX0_isReadFromBytes_4 : decode cX0_isReadFromBytes 4 = .ok (.aload_n 1, 1) := by decide +kernel
theorem dX0_isReadFromBytes_5 : decode cX0_isReadFromBytes 5 = .ok (.invokevirtual 43, 3) := by decide +kernel
theorem dX0_isReadFromBytes_8 : decode cX0_isReadFromBytes 8 = .ok (.iconst 0, 1) := by decide +kernel
theorem dX0_isReadFromBytes_9 : decode cX0_isReadFromBytes 9 = .ok (.istore_n 2, 1) := by decide +kernel
theorem dX0_isReadFromBytes_10 : decode cX0_isReadFromBytes 10 = .ok (.iload_n 2, 1) := by decide +kernel
theorem dX0_isReadFromBytes_11 : decode cX0_isReadFromBytes 11 = .ok (.aload_n 0, 1) := by decide +kernel
theorem dX0_isReadFromBytes_12 : decode cX0_isReadFromBytes 12 = .ok (.getfield 27, 3) := by decide +kernel
theorem dX0_isReadFromBytes_15 : decode cX0_isReadFromBytes 15 = .ok (.arraylength, 1) := by decide +kernel
theorem dX0_isReadFromBytes_16 : decode cX0_isReadFromBytes 16 = .ok (.if_icmp .ge 26, 3) := by decide +kernel
theorem dX0_isReadFromBytes_19 : decode cX0_isReadFromBytes 19 = .ok (.aload_n 0, 1) := by decide +kernel
theorem dX0_isReadFromBytes_20 : decode cX0_isReadFromBytes 20 = .ok (.getfield 27, 3) := by decide +kernel
theorem dX0_isReadFromBytes_23 : decode cX0_isReadFromBytes 23 = .ok (.iload_n 2, 1) := by decide +kernel
theorem dX0_isReadFromBytes_24 : decode cX0_isReadFromBytes 24 = .ok (.aload_n 0, 1) := by decide +kernel
theorem dX0_isReadFromBytes_25 : decode cX0_isReadFromBytes 25 = .ok (.getfield 24, 3) := by decide +kernel
theorem dX0_isReadFromBytes_28 : decode cX0_isReadFromBytes 28 = .ok (.sipush 256, 3) := by decide +kernel
theorem dX0_isReadFromBytes_31 : decode cX0_isReadFromBytes 31 = .ok (.invokevirtual 72, 3) := by decide +kernel
theorem dX0_isReadFromBytes_34 : decode cX0_isReadFromBytes 34 = .ok (.i2b, 1) := by decide +kernel
theorem dX0_isReadFromBytes_35 : decode cX0_isReadFromBytes 35 = .ok (.bastore, 1) := by decide +kernel
theorem dX0_isReadFromBytes_36 : decode cX0_isReadFromBytes 36 = .ok (.iinc 2 1, 3) := by decide +kernel
theorem dX0_isReadFromBytes_39 : decode cX0_isReadFromBytes 39 = .ok (.goto (-29), 3) := by decide +kernel
theorem dX0_isReadFromBytes_42 : decode cX0_isReadFromBytes 42 = .ok (.aload_n 0, 1) := by decide +kernel
theorem dX0_isReadFromBytes_43 : decode cX0_isReadFromBytes 43 = .ok (.getfield 12, 3) := by decide +kernel
theorem dX0_isReadFromBytes_46 : decode cX0_isReadFromBytes 46 = .ok (.lconst 0, 1) := by decide +kernel
theorem dX0_isReadFromBytes_47 : decode cX0_isReadFromBytes 47 = .ok (.invokevirtual 98, 3) := by decide +kernel
theorem dX0_isReadFromBytes_50 : decode cX0_isReadFromBytes 50 = .ok (.aload_n 0, 1) := by decide +kernel
theorem dX0_isReadFromBytes_51 : decode cX0_isReadFromBytes 51 = .ok (.getfield 27, 3) := by decide +kernel
theorem dX0_isReadFromBytes_54 : decode cX0_isReadFromBytes 54 = .ok (.arraylength, 1) := by decide +kernel
theorem dX0_isReadFromBytes_55 : decode cX0_isReadFromBytes 55 = .ok (.iconst 1, 1) := by decide +kernel
theorem dX0_isReadFromBytes_56 : decode cX0_isReadFromBytes 56 = .ok (.isub, 1) := by decide +kernel
theorem dX0_isReadFromBytes_57 : decode cX0_isReadFromBytes 57 = .ok (.istore_n 2, 1) := by decide +kernel
theorem dX0_isReadFromBytes_58 : decode cX0_isReadFromBytes 58 = .ok (.iload_n 2, 1) := by decide +kernel
theorem dX0_isReadFromBytes_59 : decode cX0_isReadFromBytes 59 = .ok (.ifCond .lt 29, 3) := by decide +kernel
theorem dX0_isReadFromBytes_62 : decode cX0_isReadFromBytes 62 = .ok (.aload_n 0, 1) := by decide +kernel
theorem dX0_isReadFromBytes_63 : decode cX0_isReadFromBytes 63 = .ok (.getfield 12, 3) := by decide +kernel
theorem dX0_isReadFromBytes_66 : decode cX0_isReadFromBytes 66 = .ok (.sipush 256, 3) := by decide +kernel
theorem dX0_isReadFromBytes_69 : decode cX0_isReadFromBytes 69 = .ok (.aload_n 0, 1) := by decide +kernel
theorem dX0_isReadFromBytes_70 : decode cX0_isReadFromBytes 70 = .ok (.getfield 27, 3) := by decide +kernel
theorem dX0_isReadFromBytes_73 : decode cX0_isReadFromBytes 73 = .ok (.iload_n 2, 1) := by decide +kernel
theorem dX0_isReadFromBytes_74 : decode cX0_isReadFromBytes 74 = .ok (.baload, 1) := by decide +kernel
theorem dX0_isReadFromBytes_75 : decode cX0_isReadFromBytes 75 = .ok (.sipush 255, 3) := by decide +kernel
theorem dX0_isReadFromBytes_78 : decode cX0_isReadFromBytes 78 = .ok (.iand, 1) := by decide +kernel
theorem dX0_isReadFromBytes_79 : decode cX0_isReadFromBytes 79 = .ok (.invokevirtual 35, 3) := by decide +kernel
theorem dX0_isReadFromBytes_82 : decode cX0_isReadFromBytes 82 = .ok (.iinc 2 (-1), 3) := by decide +kernel
theorem dX0_isReadFromBytes_85 : decode cX0_isReadFromBytes 85 = .ok (.goto (-27), 3) := by decide +kernel
theorem dX0_isReadFromBytes_88 : decode cX0_isReadFromBytes 88 = .ok (.aload_n 0, 1) := by decide +kernel
theorem dX0_isReadFromBytes_89 : decode cX0_isReadFromBytes 89 = .ok (.getfield 12, 3) := by decide +kernel
theorem dX0_isReadFromBytes_92 : decode cX0_isReadFromBytes 92 = .ok (.aload_n 1, 1) := by decide +kernel
theorem dX0_isReadFromBytes_93 : decode cX0_isReadFromBytes 93 = .ok (.invokevirtual 139, 3) := by decide +kernel
theorem dX0_isReadFromBytes_96 : decode cX0_isReadFromBytes 96 = .ok (.ifCond .ne 7, 3) := by decide +kernel
theorem dX0_isReadFromBytes_99 : decode cX0_isReadFromBytes 99 = .ok (.iconst 1, 1) := by decide +kernel
theorem dX0_isReadFromBytes_100 : decode cX0_isReadFromBytes 100 = .ok (.goto 4, 3) := by decide +kernel
theorem dX0_isReadFromBytes_103 : decode cX0_isReadFromBytes 103 = .ok (.iconst 0, 1) := by decide +kernel
theorem dX0_isReadFromBytes_104 : decode cX0_isReadFromBytes 104 = .ok (.ireturn, 1) := by decide +kernel
theorem dX1_init_0 : decode cX1_init 0 = .ok (.aload_n 0, 1) := by decide +kernel
theorem dX1_init_1 : decode cX1_init 1 = .ok (.invokespecial 3, 3) := by decide +kernel
theorem dX1_init_4 : decode cX1_init 4 = .ok (.aload_n 0, 1) := by decide +kernel
theorem dX1_init_5 : decode cX1_init 5 = .ok (.bipush 26, 2) := by decide +kernel
theorem dX1_init_7 : decode cX1_init 7 = .ok (.newarray .int, 2) := by decide +kernel
theorem dX1_init_9 : decode cX1_init 9 = .ok (.putfield 11, 3) := by decide +kernel
theorem dX1_init_12 : decode cX1_init 12 = .ok (.aload_n 0, 1) := by decide +kernel
theorem dX1_init_13 : decode cX1_init 13 = .ok (.bipush 26, 2) := by decide +kernel
theorem dX1_init_15 : decode cX1_init 15 = .ok (.newarray .int, 2) := by decide +kernel
theorem dX1_init_17 : decode cX1_init 17 = .ok (.putfield 15, 3) := by decide +kernel
theorem dX1_init_20 : decode cX1_init 20 = .ok (.aload_n 0, 1) := by decide +kernel
theorem dX1_init_21 : decode cX1_init 21 = .ok (.bipush 26, 2) := by decide +kernel
theorem dX1_init_23 : decode cX1_init 23 = .ok (.newarray .int, 2) := by decide +kernel
theorem dX1_init_25 : decode cX1_init 25 = .ok (.putfield 18, 3) := by decide +kernel
theorem dX1_init_28 : decode cX1_init 28 = .ok (.aload_n 0, 1) := by decide +kernel
theorem dX1_init_29 : decode cX1_init 29 = .ok (.bipush 27, 2) := by decide +kernel
theorem dX1_init_31 : decode cX1_init 31 = .ok (.anewarray 21, 3) := by decide +kernel
theorem dX1_init_34 : decode cX1_init 34 = .ok (.putfield 23, 3) := by decide +kernel
theorem dX1_init_37 : decode cX1_init 37 = .ok (.aload_n 0, 1) := by decide +kernel
theorem dX1_init_38 : decode cX1_init 38 = .ok (.bipush 27, 2) := by decide +kernel
theorem dX1_init_40 : decode cX1_init 40 = .ok (.anewarray 21, 3) := by decide +kernel
theorem dX1_init_43 : decode cX1_init 43 = .ok (.putfield 27, 3) := by decide +kernel
theorem dX1_init_46 : decode cX1_init 46 = .ok (.iconst 0, 1) := by decide +kernel
theorem dX1_init_47 : decode cX1_init 47 = .ok (.istore_n 1, 1) := by decide +kernel
theorem dX1_init_48 : decode cX1_init 48 = .ok (.iload_n 1, 1) := by decide +kernel
theorem dX1_init_49 : decode cX1_init 49 = .ok (.bipush 27, 2) := by decide +kernel
theorem dX1_init_51 : decode cX1_init 51 = .ok (.if_icmp .ge 35, 3) := by decide +kernel
theorem dX1_init_54 : decode cX1_init 54 = .ok (.aload_n 0, 1) := by decide +kernel
theorem dX1_init_55 : decode cX1_init 55 = .ok (.getfield 23, 3) := by decide +kernel
theorem dX1_init_58 : decode cX1_init 58 = .ok (.iload_n 1, 1) := by decide +kernel
theorem dX1_init_59 : decode cX1_init 59 = .ok (.new 21, 3) := by decide +kernel
theorem dX1_init_62 : decode cX1_init 62 = .ok (.dup, 1) := by decide +kernel
theorem dX1_init_63 : decode cX1_init 63 = .ok (.invokespecial 30, 3) := by decide +kernel
theorem dX1_init_66 : decode cX1_init 66 = .ok (.aastore, 1) := by decide +kernel
theorem dX1_init_67 : decode cX1_init 67 = .ok (.aload_n 0, 1) := by decide +kernel
theorem dX1_init_68 : decode cX1_init 68 = .ok (.getfield 27, 3) := by decide +kernel
theorem dX1_init_71 : decode cX1_init 71 = .ok (.iload_n 1, 1) := by decide +kernel
theorem dX1_init_72 : decode cX1_init 72 = .ok (.new 21, 3) := by decide +kernel
theorem dX1_init_75 : decode cX1_init 75 = .ok (.dup, 1) := by decide +kernel
theorem dX1_init_76 : decode cX1_init 76 = .ok (.invokespecial 30, 3) := by decide +kernel
theorem dX1_init_79 : decode cX1_init 79 = .ok (.aastore, 1) := by decide +kernel
theorem dX1_init_80 : decode cX1_init 80 = .ok (.iinc 1 1, 3) := by decide +kernel
theorem dX1_init_83 : decode cX1_init 83 = .ok (.goto (-35), 3) := by decide +kernel
theorem dX1_init_86 : decode cX1_init 86 = .ok (.return_, 1) := by decide +kernel
theorem dX1_expand_0 : decode cX1_expand 0 = .ok (.iload_n 1, 1) := by decide +kernel
theorem dX1_expand_1 : decode cX1_expand 1 = .ok (.aload_n 0, 1) := by decide +kernel
theorem dX1_expand_2 : decode cX1_expand 2 = .ok (.getfield 31, 3) := by decide +kernel
theorem dX1_expand_5 : decode cX1_expand 5 = .ok (.if_icmp .ne 4, 3) := by decide +kernel
theorem dX1_expand_8 : decode cX1_expand 8 = .ok (.return_, 1) := by decide +kernel
theorem dX1_expand_9 : decode cX1_expand 9 = .ok (.aload_n 0, 1) := by decide +kernel
theorem dX1_expand_10 : decode cX1_expand 10 = .ok (.iload_n 1, 1) := by decide +kernel
theorem dX1_expand_11 : decode cX1_expand 11 = .ok (.putfield 31, 3) := by decide +kernel
theorem dX1_expand_14 : decode cX1_expand 14 = .ok (.aload_n 0, 1) := by decide +kernel
theorem dX1_expand_15 : decode cX1_expand 15 = .ok (.iload_n 1, 1) := by decide +kernel
theorem dX1_expand_16 : decode cX1_expand 16 = .ok (.invokestatic 35, 3) := by decide +kernel
theorem dX1_expand_19 : decode cX1_expand 19 = .ok (.putfield 39, 3) := by decide +kernel
theorem dX1_expand_22 : decode cX1_expand 22 = .ok (.aload_n 0, 1) := by decide +kernel
theorem dX1_expand_23 : decode cX1_expand 23 = .ok (.invokevirtual 42, 3) := by decide +kernel
theorem dX1_expand_26 : decode cX1_expand 26 = .ok (.aload_n 0, 1) := by decide +kernel
theorem dX1_expand_27 : decode cX1_expand 27 = .ok (.aload_n 0, 1) := by decide +kernel
theorem dX1_expand_28 : decode cX1_expand 28 = .ok (.getfield 23, 3) := by decide +kernel
theorem dX1_expand_31 : decode cX1_expand 31 = .ok (.iconst 1, 1) := by decide +kernel
theorem dX1_expand_32 : decode cX1_expand 32 = .ok (.aload_n 0, 1) := by decide +kernel
theorem dX1_expand_33 : decode cX1_expand 33 = .ok (.getfield 39, 3) := by decide +kernel
theorem dX1_expand_36 : decode cX1_expand 36 = .ok (.invokevirtual 45, 3) := by decide +kernel
theorem dX1_expand_39 : decode cX1_expand 39 = .ok (.aload_n 0, 1) := by decide +kernel
theorem dX1_expand_40 : decode cX1_expand 40 = .ok (.aload_n 0, 1) := by decide +kernel
theorem dX1_expand_41 : decode cX1_expand 41 = .ok (.getfield 27, 3) := by decide +kernel
theorem dX1_expand_44 : decode cX1_expand 44 = .ok (.iconst 0, 1) := by decide +kernel
theorem dX1_expand_45 : decode cX1_expand 45 = .ok (.iconst 1, 1) := by decide +kernel
theorem dX1_expand_46 : decode cX1_expand 46 = .ok (.invokevirtual 45, 3) := by decide +kernel
theorem dX1_expand_49 : decode cX1_expand 49 = .ok (.return_, 1) := by decide +kernel
theorem dX1_fillParts_0 : decode cX1_fillParts 0 = .ok (.aload_n 0, 1) := by decide +kernel
theorem dX1_fillParts_1 : decode cX1_fillParts 1 = .ok (.getfield 11, 3) := by decide +kernel
theorem dX1_fillParts_4 : decode cX1_fillParts 4 = .ok (.iconst 0, 1) := by decide +kernel
theorem dX1_fillParts_5 : decode cX1_fillParts 5 = .ok (.iconst 0, 1) := by decide +kernel
theorem dX1_fillParts_6 : decode cX1_fillParts 6 = .ok (.iastore, 1) := by decide +kernel
theorem dX1_fillParts_7 : decode cX1_fillParts 7 = .ok (.aload_n 0, 1) := by decide +kernel
theorem dX1_fillParts_8 : decode cX1_fillParts 8 = .ok (.getfield 15, 3) := by decide +kernel
theorem dX1_fillParts_11 : decode cX1_fillParts 11 = .ok (.iconst 0, 1) := by decide +kernel
theorem dX1_fillParts_12 : decode cX1_fillParts 12 = .ok (.iconst 1, 1) := by decide +kernel
theorem dX1_fillParts_13 : decode cX1_fillParts 13 = .ok (.iastore, 1) := by decide +kernel
theorem dX1_fillParts_14 : decode cX1_fillParts 14 = .ok (.aload_n 0, 1) := by decide +kernel
theorem dX1_fillParts_15 : decode cX1_fillParts 15 = .ok (.getfield 18, 3) := by decide +kernel
theorem dX1_fillParts_18 : decode cX1_fillParts 18 = .ok (.iconst 0, 1) := by decide +kernel
theorem dX1_fillParts_19 : decode cX1_fillParts 19 = .ok (.aload_n 0, 1) := by decide +kernel
theorem dX1_fillParts_20 : decode cX1_fillParts 20 = .ok (.getfield 39, 3) := by decide +kernel
theorem dX1_fillParts_23 : decode cX1_fillParts 23 = .ok (.iastore, 1) := by decide +kernel
theorem dX1_fillParts_24 : decode cX1_fillParts 24 = .ok (.iconst 1, 1) := by decide +kernel
theorem dX1_fillParts_25 : decode cX1_fillParts 25 = .ok (.istore_n 1, 1) := by decide +kernel
theorem dX1_fillParts_26 : decode cX1_fillParts 26 = .ok (.iload_n 1, 1) := by decide +kernel
theorem dX1_fillParts_27 : decode cX1_fillParts 27 = .ok (.bipush 25, 2) := by decide +kernel
theorem dX1_fillParts_29 : decode cX1_fillParts 29 = .ok (.if_icmp .gt 106, 3) := by decide +kernel
theorem dX1_fillParts_32 : decode cX1_fillParts 32 = .ok (.aload_n 0, 1) := by decide +kernel
theorem dX1_fillParts_33 : decode cX1_fillParts 33 = .ok (.getfield 11, 3) := by decide +kernel
theorem dX1_fillParts_36 : decode cX1_fillParts 36 = .ok (.iload_n 1, 1) := by decide +kernel
theorem dX1_fillParts_37 : decode cX1_fillParts 37 = .ok (.aload_n 0, 1) := by decide +kernel
theorem dX1_fillParts_38 : decode cX1_fillParts 38 = .ok (.getfield 15, 3) := by decide +kernel
theorem dX1_fillParts_41 : decode cX1_fillParts 41 = .ok (.iload_n 1, 1) := by decide +kernel
theorem dX1_fillParts_42 : decode cX1_fillParts 42 = .ok (.iconst 1, 1) := by decide +kernel
theorem dX1_fillParts_43 : decode cX1_fillParts 43 = .ok (.isub, 1) := by decide +kernel
theorem dX1_fillParts_44 : decode cX1_fillParts 44 = .ok (.iaload, 1) := by decide +kernel
theorem dX1_fillParts_45 : decode cX1_fillParts 45 = .ok (.aload_n 0, 1) := by decide +kernel
theorem dX1_fillParts_46 : decode cX1_fillParts 46 = .ok (.getfield 18, 3) := by decide +kernel
theorem dX1_fillParts_49 : decode cX1_fillParts 49 = .ok (.iload_n 1, 1) := by decide +kernel
theorem dX1_fillParts_50 : decode cX1_fillParts 50 = .ok (.iconst 1, 1) := by decide +kernel
theorem dX1_fillParts_51 : decode cX1_fillParts 51 = .ok (.isub, 1) := by decide +kernel
theorem dX1_fillParts_52 : decode cX1_fillParts 52 = .ok (.iaload, 1) := by decide +kernel
theorem dX1_fillParts_53 : decode cX1_fillParts 53 = .ok (.imul, 1) := by decide +kernel
theorem dX1_fillParts_54 : decode cX1_fillParts 54 = .ok (.aload_n 0, 1) := by decide +kernel
theorem dX1_fillParts_55 : decode cX1_fillParts 55 = .ok (.getfield 11, 3) := by decide +kernel
theorem dX1_fillParts_58 : decode cX1_fillParts 58 = .ok (.iload_n 1, 1) := by decide +kernel
theorem dX1_fillParts_59 : decode cX1_fillParts 59 = .ok (.iconst 1, 1) := by decide +kernel
theorem dX1_fillParts_60 : decode cX1_fillParts 60 = .ok (.isub, 1) := by decide +kernel
theorem dX1_fillParts_61 : decode cX1_fillParts 61 = .ok (.iaload, 1) := by decide +kernel
theorem dX1_fillParts_62 : decode cX1_fillParts 62 = .ok (.isub, 1) := by decide +kernel
theorem dX1_fillParts_63 : decode cX1_fillParts 63 = .ok (.iastore, 1) := by decide +kernel
theorem dX1_fillParts_64 : decode cX1_fillParts 64 = .ok (.aload_n 0, 1) := by decide +kernel
theorem dX1_fillParts_65 : decode cX1_fillParts 65 = .ok (.getfield 15, 3) := by decide +kernel
theorem dX1_fillParts_68 : decode cX1_fillParts 68 = .ok (.iload_n 1, 1) := by decide +kernel
theorem dX1_fillParts_69 : decode cX1_fillParts 69 = .ok (.aload_n 0, 1) := by decide +kernel
theorem dX1_fillParts_70 : decode cX1_fillParts 70 = .ok (.getfield 31, 3) := by decide +kernel
theorem dX1_fillParts_73 : decode cX1_fillParts 73 = .ok (.aload_n 0, 1) := by decide +kernel
theorem dX1_fillParts_74 : decode cX1_fillParts 74 = .ok (.getfield 11, 3) := by decide +kernel
theorem dX1_fillParts_77 : decode cX1_fillParts 77 = .ok (.iload_n 1, 1) := by decide +kernel
theorem dX1_fillParts_78 : decode cX1_fillParts 78 = .ok (.iaload, 1) := by decide +kernel
theorem dX1_fillParts_79 : decode cX1_fillParts 79 = .ok (.aload_n 0, 1) := by decide +kernel
theorem dX1_fillParts_80 : decode cX1_fillParts 80 = .ok (.getfield 11, 3) := by decide +kernel
theorem dX1_fillParts_83 : decode cX1_fillParts 83 = .ok (.iload_n 1, 1) := by decide +kernel
theorem dX1_fillParts_84 : decode cX1_fillParts 84 = .ok (.iaload, 1) := by decide +kernel
theorem dX1_fillParts_85 : decode cX1_fillParts 85 = .ok (.imul, 1) := by decide +kernel
theorem dX1_fillParts_86 : decode cX1_fillParts 86 = .ok (.isub, 1) := by decide +kernel
theorem dX1_fillParts_87 : decode cX1_fillParts 87 = .ok (.iconst 1, 1) := by decide +kernel
theorem dX1_fillParts_88 : decode cX1_fillParts 88 = .ok (.aload_n 0, 1) := by decide +kernel
theorem dX1_fillParts_89 : decode cX1_fillParts 89 = .ok (.getfield 15, 3) := by decide +kernel
theorem dX1_fillParts_92 : decode cX1_fillParts 92 = .ok (.iload_n 1, 1) := by decide +kernel
theorem dX1_fillParts_93 : decode cX1_fillParts 93 = .ok (.iconst 1, 1) := by decide +kernel
theorem dX1_fillParts_94 : decode cX1_fillParts 94 = .ok (.isub, 1) := by decide +kernel
theorem dX1_fillParts_95 : decode cX1_fillParts 95 = .ok (.iaload, 1) := by decide +kernel
theorem dX1_fillParts_96 : decode cX1_fillParts 96 = .ok (.invokestatic 49, 3) := by decide +kernel
theorem dX1_fillParts_99 : decode cX1_fillParts 99 = .ok (.idiv, 1) := by decide +kernel
theorem dX1_fillParts_100 : decode cX1_fillParts 100 = .ok (.iastore, 1) := by decide +kernel
theorem dX1_fillParts_101 : decode cX1_fillParts 101 = .ok (.aload_n 0, 1) := by decide +kernel
theorem dX1_fillParts_102 : decode cX1_fillParts 102 = .ok (.getfield 18, 3) := by decide +kernel
theorem dX1_fillParts_105 : decode cX1_fillParts 105 = .ok (.iload_n 1, 1) := by decide +kernel
theorem dX1_fillParts_106 : decode cX1_fillParts 106 = .ok (.aload_n 0, 1) := by decide +kernel
theorem dX1_fillParts_107 : decode cX1_fillParts 107 = .ok (.getfield 39, 3) := by decide +kernel
theorem dX1_fillParts_110 : decode cX1_fillParts 110 = .ok (.aload_n 0, 1) := by decide +kernel
theorem dX1_fillParts_111 : decode cX1_fillParts 111 = .ok (.getfield 11, 3) := by decide +kernel
theorem dX1_fillParts_114 : decode cX1_fillParts 114 = .ok (.iload_n 1, 1) := by decide +kernel
theorem dX1_fillParts_115 : decode cX1_fillParts 115 = .ok (.iaload, 1) := by decide +kernel
theorem dX1_fillParts_116 : decode cX1_fillParts 116 = .ok (.iadd, 1) := by decide +kernel
theorem dX1_fillParts_117 : decode cX1_fillParts 117 = .ok (.iconst 1, 1) := by decide +kernel
theorem dX1_fillParts_118 : decode cX1_fillParts 118 = .ok (.aload_n 0, 1) := by decide +kernel
theorem dX1_fillParts_119 : decode cX1_fillParts 119 = .ok (.getfield 15, 3) := by decide +kernel
theorem dX1_fillParts_122 : decode cX1_fillParts 122 = .ok (.iload_n 1, 1) := by decide +kernel
theorem dX1_fillParts_123 : decode cX1_fillParts 123 = .ok (.iaload, 1) := by decide +kernel
theorem dX1_fillParts_124 : decode cX1_fillParts 124 = .ok (.invokestatic 49, 3) := by decide +kernel
theorem dX1_fillParts_127 : decode cX1_fillParts 127 = .ok (.idiv, 1) := by decide +kernel
theorem dX1_fillParts_128 : decode cX1_fillParts 128 = .ok (.iastore, 1) := by decide +kernel
theorem dX1_fillParts_129 : decode cX1_fillParts 129 = .ok (.iinc 1 1, 3) := by decide +kernel
theorem dX1_fillParts_132 : decode cX1_fillParts 132 = .ok (.goto (-106), 3) := by decide +kernel
theorem dX1_fillParts_135 : decode cX1_fillParts 135 = .ok (.return_, 1) := by decide +kernel
theorem dX1_fillRow_0 : decode cX1_fillRow 0 = .ok (.aload_n 1, 1) := by decide +kernel
theorem dX1_fillRow_1 : decode cX1_fillRow 1 = .ok (.iconst 0, 1) := by decide +kernel
theorem dX1_fillRow_2 : decode cX1_fillRow 2 = .ok (.aaload, 1) := by decide +kernel
theorem dX1_fillRow_3 : decode cX1_fillRow 3 = .ok (.iload_n 2, 1) := by decide +kernel
theorem dX1_fillRow_4 : decode cX1_fillRow 4 = .ok (.i2l, 1) := by decide +kernel
theorem dX1_fillRow_5 : decode cX1_fillRow 5 = .ok (.invokevirtual 55, 3) := by decide +kernel
theorem dX1_fillRow_8 : decode cX1_fillRow 8 = .ok (.aload_n 1, 1) := by decide +kernel
theorem dX1_fillRow_9 : decode cX1_fillRow 9 = .ok (.iconst 1, 1) := by decide +kernel
theorem dX1_fillRow_10 : decode cX1_fillRow 10 = .ok (.aaload, 1) := by decide +kernel
theorem dX1_fillRow_11 : decode cX1_fillRow 11 = .ok (.iload_n 3, 1) := by decide +kernel
theorem dX1_fillRow_12 : decode cX1_fillRow 12 = .ok (.i2l, 1) := by decide +kernel
theorem dX1_fillRow_13 : decode cX1_fillRow 13 = .ok (.invokevirtual 55, 3) := by decide +kernel
theorem dX1_fillRow_16 : decode cX1_fillRow 16 = .ok (.iconst 1, 1) := by decide +kernel
theorem dX1_fillRow_17 : decode cX1_fillRow 17 = .ok (.istore 4, 2) := by decide +kernel
theorem dX1_fillRow_19 : decode cX1_fillRow 19 = .ok (.iload 4, 2) := by decide +kernel
theorem dX1_fillRow_21 : decode cX1_fillRow 21 = .ok (.bipush 25, 2) := by decide +kernel
theorem dX1_fillRow_23 : decode cX1_fillRow 23 = .ok (.if_icmp .gt 63, 3) := by decide +kernel
theorem dX1_fillRow_26 : decode cX1_fillRow 26 = .ok (.iload 4, 2) := by decide +kernel
theorem dX1_fillRow_28 : decode cX1_fillRow 28 = .ok (.iconst 1, 1) := by decide +kernel
theorem dX1_fillRow_29 : decode cX1_fillRow 29 = .ok (.iadd, 1) := by decide +kernel
theorem dX1_fillRow_30 : decode cX1_fillRow 30 = .ok (.aload_n 1, 1) := by decide +kernel
theorem dX1_fillRow_31 : decode cX1_fillRow 31 = .ok (.arraylength, 1) := by decide +kernel
theorem dX1_fillRow_32 : decode cX1_fillRow 32 = .ok (.if_icmp .ge 54, 3) := by decide +kernel
theorem dX1_fillRow_35 : decode cX1_fillRow 35 = .ok (.aload_n 1, 1) := by decide +kernel
theorem dX1_fillRow_36 : decode cX1_fillRow 36 = .ok (.iload 4, 2) := by decide +kernel
theorem dX1_fillRow_38 : decode cX1_fillRow 38 = .ok (.iconst 1, 1) := by decide +kernel
theorem dX1_fillRow_39 : decode cX1_fillRow 39 = .ok (.iadd, 1) := by decide +kernel
theorem dX1_fillRow_40 : decode cX1_fillRow 40 = .ok (.aaload, 1) := by decide +kernel
theorem dX1_fillRow_41 : decode cX1_fillRow 41 = .ok (.aload_n 1, 1) := by decide +kernel
theorem dX1_fillRow_42 : decode cX1_fillRow 42 = .ok (.iload 4, 2) := by decide +kernel
theorem dX1_fillRow_44 : decode cX1_fillRow 44 = .ok (.aaload, 1) := by decide +kernel
theorem dX1_fillRow_45 : decode cX1_fillRow 45 = .ok (.invokevirtual 59, 3) := by decide +kernel
theorem dX1_fillRow_48 : decode cX1_fillRow 48 = .ok (.aload_n 1, 1) := by decide +kernel
theorem dX1_fillRow_49 : decode cX1_fillRow 49 = .ok (.iload 4, 2) := by decide +kernel
theorem dX1_fillRow_51 : decode cX1_fillRow 51 = .ok (.iconst 1, 1) := by decide +kernel
theorem dX1_fillRow_52 : decode cX1_fillRow 52 = .ok (.iadd, 1) := by decide +kernel
theorem dX1_fillRow_53 : decode cX1_fillRow 53 = .ok (.aaload, 1) := by decide +kernel
theorem dX1_fillRow_54 : decode cX1_fillRow 54 = .ok (.aload_n 0, 1) := by decide +kernel
theorem dX1_fillRow_55 : decode cX1_fillRow 55 = .ok (.getfield 18, 3) := by decide +kernel
theorem dX1_fillRow_58 : decode cX1_fillRow 58 = .ok (.iload 4, 2) := by decide +kernel
theorem dX1_fillRow_60 : decode cX1_fillRow 60 = .ok (.iaload, 1) := by decide +kernel
theorem dX1_fillRow_61 : decode cX1_fillRow 61 = .ok (.iconst 0, 1) := by decide +kernel
theorem dX1_fillRow_62 : decode cX1_fillRow 62 = .ok (.invokevirtual 63, 3) := by decide +kernel
theorem dX1_fillRow_65 : decode cX1_fillRow 65 = .ok (.aload_n 1, 1) := by decide +kernel
theorem dX1_fillRow_66 : decode cX1_fillRow 66 = .ok (.iload 4, 2) := by decide +kernel
theorem dX1_fillRow_68 : decode cX1_fillRow 68 = .ok (.iconst 1, 1) := by decide +kernel
theorem dX1_fillRow_69 : decode cX1_fillRow 69 = .ok (.iadd, 1) := by decide +kernel
theorem dX1_fillRow_70 : decode cX1_fillRow 70 = .ok (.aaload, 1) := by decide +kernel
theorem dX1_fillRow_71 : decode cX1_fillRow 71 = .ok (.aload_n 1, 1) := by decide +kernel
theorem dX1_fillRow_72 : decode cX1_fillRow 72 = .ok (.iload 4, 2) := by decide +kernel
theorem dX1_fillRow_74 : decode cX1_fillRow 74 = .ok (.iconst 1, 1) := by decide +kernel
theorem dX1_fillRow_75 : decode cX1_fillRow 75 = .ok (.isub, 1) := by decide +kernel
theorem dX1_fillRow_76 : decode cX1_fillRow 76 = .ok (.aaload, 1) := by decide +kernel
theorem dX1_fillRow_77 : decode cX1_fillRow 77 = .ok (.invokevirtual 67, 3) := by decide +kernel
theorem dX1_fillRow_80 : decode cX1_fillRow 80 = .ok (.iinc 4 1, 3) := by decide +kernel
theorem dX1_fillRow_83 : decode cX1_fillRow 83 = .ok (.goto (-64), 3) := by decide +kernel
theorem dX1_fillRow_86 : decode cX1_fillRow 86 = .ok (.return_, 1) := by decide +kernel
theorem dX1_place_0 : decode cX1_place 0 = .ok (.iconst 0, 1) := by decide +kernel
theorem dX1_place_1 : decode cX1_place 1 = .ok (.bipush 25, 2) := by decide +kernel
theorem dX1_place_3 : decode cX1_place 3 = .ok (.iload_n 0, 1) := by decide +kernel
theorem dX1_place_4 : decode cX1_place 4 = .ok (.invokestatic 70, 3) := by decide +kernel
theorem dX1_place_7 : decode cX1_place 7 = .ok (.invokestatic 49, 3) := by decide +kernel
theorem dX1_place_10 : decode cX1_place 10 = .ok (.ireturn, 1) := by decide +kernel
theorem dX1_partM_0 : decode cX1_partM 0 = .ok (.aload_n 0, 1) := by decide +kernel
theorem dX1_partM_1 : decode cX1_partM 1 = .ok (.getfield 11, 3) := by decide +kernel
theorem dX1_partM_4 : decode cX1_partM 4 = .ok (.iload_n 1, 1) := by decide +kernel
theorem dX1_partM_5 : decode cX1_partM 5 = .ok (.invokestatic 73, 3) := by decide +kernel
theorem dX1_partM_8 : decode cX1_partM 8 = .ok (.iaload, 1) := by decide +kernel
theorem dX1_partM_9 : decode cX1_partM 9 = .ok (.ireturn, 1) := by decide +kernel
theorem dX1_partD_0 : decode cX1_partD 0 = .ok (.aload_n 0, 1) := by decide +kernel
theorem dX1_partD_1 : decode cX1_partD 1 = .ok (.getfield 15, 3) := by decide +kernel
theorem dX1_partD_4 : decode cX1_partD 4 = .ok (.iload_n 1, 1) := by decide +kernel
theorem dX1_partD_5 : decode cX1_partD 5 = .ok (.invokestatic 73, 3) := by decide +kernel
theorem dX1_partD_8 : decode cX1_partD 8 = .ok (.iaload, 1) := by decide +kernel
theorem dX1_partD_9 : decode cX1_partD 9 = .ok (.ireturn, 1) := by decide +kernel
theorem dX1_partA_0 : decode cX1_partA 0 = .ok (.aload_n 0, 1) := by decide +kernel
theorem dX1_partA_1 : decode cX1_partA 1 = .ok (.getfield 18, 3) := by decide +kernel
theorem dX1_partA_4 : decode cX1_partA 4 = .ok (.iload_n 1, 1) := by decide +kernel
theorem dX1_partA_5 : decode cX1_partA 5 = .ok (.invokestatic 73, 3) := by decide +kernel
theorem dX1_partA_8 : decode cX1_partA 8 = .ok (.iaload, 1) := by decide +kernel
theorem dX1_partA_9 : decode cX1_partA 9 = .ok (.ireturn, 1) := by decide +kernel
theorem dX1_top_0 : decode cX1_top 0 = .ok (.iload_n 1, 1) := by decide +kernel
theorem dX1_top_1 : decode cX1_top 1 = .ok (.ifCond .ge 12, 3) := by decide +kernel
theorem dX1_top_4 : decode cX1_top 4 = .ok (.aload_n 0, 1) := by decide +kernel
theorem dX1_top_5 : decode cX1_top 5 = .ok (.getfield 23, 3) := by decide +kernel
theorem dX1_top_8 : decode cX1_top 8 = .ok (.iconst 0, 1) := by decide +kernel
theorem dX1_top_9 : decode cX1_top 9 = .ok (.aaload, 1) := by decide +kernel
theorem dX1_top_10 : decode cX1_top 10 = .ok (.goto 14, 3) := by decide +kernel
theorem dX1_top_13 : decode cX1_top 13 = .ok (.aload_n 0, 1) := by decide +kernel
theorem dX1_top_14 : decode cX1_top 14 = .ok (.getfield 23, 3) := by decide +kernel
theorem dX1_top_17 : decode cX1_top 17 = .ok (.iload_n 1, 1) := by decide +kernel
theorem dX1_top_18 : decode cX1_top 18 = .ok (.invokestatic 73, 3) := by decide +kernel
theorem dX1_top_21 : decode cX1_top 21 = .ok (.iconst 1, 1) := by decide +kernel
theorem dX1_top_22 : decode cX1_top 22 = .ok (.iadd, 1) := by decide +kernel
theorem dX1_top_23 : decode cX1_top 23 = .ok (.aaload, 1) := by decide +kernel
theorem dX1_top_24 : decode cX1_top 24 = .ok (.areturn, 1) := by decide +kernel
theorem dX1_bottom_0 : decode cX1_bottom 0 = .ok (.iload_n 1, 1) := by decide +kernel
theorem dX1_bottom_1 : decode cX1_bottom 1 = .ok (.ifCond .ge 12, 3) := by decide +kernel
theorem dX1_bottom_4 : decode cX1_bottom 4 = .ok (.aload_n 0, 1) := by decide +kernel
theorem dX1_bottom_5 : decode cX1_bottom 5 = .ok (.getfield 27, 3) := by decide +kernel
theorem dX1_bottom_8 : decode cX1_bottom 8 = .ok (.iconst 0, 1) := by decide +kernel
theorem dX1_bottom_9 : decode cX1_bottom 9 = .ok (.aaload, 1) := by decide +kernel
theorem dX1_bottom_10 : decode cX1_bottom 10 = .ok (.goto 14, 3) := by decide +kernel
theorem dX1_bottom_13 : decode cX1_bottom 13 = .ok (.aload_n 0, 1) := by decide +kernel
theorem dX1_bottom_14 : decode cX1_bottom 14 = .ok (.getfield 27, 3) := by decide +kernel
theorem dX1_bottom_17 : decode cX1_bottom 17 = .ok (.iload_n 1, 1) := by decide +kernel
theorem dX1_bottom_18 : decode cX1_bottom 18 = .ok (.invokestatic 73, 3) := by decide +kernel
theorem dX1_bottom_21 : decode cX1_bottom 21 = .ok (.iconst 1, 1) := by decide +kernel
theorem dX1_bottom_22 : decode cX1_bottom 22 = .ok (.iadd, 1) := by decide +kernel
theorem dX1_bottom_23 : decode cX1_bottom 23 = .ok (.aaload, 1) := by decide +kernel
theorem dX1_bottom_24 : decode cX1_bottom 24 = .ok (.areturn, 1) := by decide +kernel
theorem dX1_turn_0 : decode cX1_turn 0 = .ok (.iconst 1, 1) := by decide +kernel
theorem dX1_turn_1 : decode cX1_turn 1 = .ok (.istore_n 1, 1) := by decide +kernel
theorem dX1_turn_2 : decode cX1_turn 2 = .ok (.iload_n 1, 1) := by decide +kernel
theorem dX1_turn_3 : decode cX1_turn 3 = .ok (.bipush 25, 2) := by decide +kernel
theorem dX1_turn_5 : decode cX1_turn 5 = .ok (.if_icmp .ge 21, 3) := by decide +kernel
theorem dX1_turn_8 : decode cX1_turn 8 = .ok (.aload_n 0, 1) := by decide +kernel
theorem dX1_turn_9 : decode cX1_turn 9 = .ok (.getfield 15, 3) := by decide +kernel
theorem dX1_turn_12 : decode cX1_turn 12 = .ok (.iload_n 1, 1) := by decide +kernel
theorem dX1_turn_13 : decode cX1_turn 13 = .ok (.iaload, 1) := by decide +kernel
theorem dX1_turn_14 : decode cX1_turn 14 = .ok (.iconst 1, 1) := by decide +kernel
theorem dX1_turn_15 : decode cX1_turn 15 = .ok (.if_icmp .ne 5, 3) := by decide +kernel
theorem dX1_turn_18 : decode cX1_turn 18 = .ok (.iload_n 1, 1) := by decide +kernel
theorem dX1_turn_19 : decode cX1_turn 19 = .ok (.ireturn, 1) := by decide +kernel
theorem dX1_turn_20 : decode cX1_turn 20 = .ok (.iinc 1 1, 3) := by decide +kernel
theorem dX1_turn_23 : decode cX1_turn 23 = .ok (.goto (-21), 3) := by decide +kernel
theorem dX1_turn_26 : decode cX1_turn 26 = .ok (.bipush 25, 2) := by decide +kernel
theorem dX1_turn_28 : decode cX1_turn 28 = .ok (.ireturn, 1) := by decide +kernel
theorem dX1_isTurnOdd_0 : decode cX1_isTurnOdd 0 = .ok (.aload_n 0, 1) := by decide +kernel
theorem dX1_isTurnOdd_1 : decode cX1_isTurnOdd 1 = .ok (.invokevirtual 76, 3) := by decide +kernel
theorem dX1_isTurnOdd_4 : decode cX1_isTurnOdd 4 = .ok (.iconst 2, 1) := by decide +kernel
theorem dX1_isTurnOdd_5 : decode cX1_isTurnOdd 5 = .ok (.irem, 1) := by decide +kernel
theorem dX1_isTurnOdd_6 : decode cX1_isTurnOdd 6 = .ok (.iconst 1, 1) := by decide +kernel
theorem dX1_isTurnOdd_7 : decode cX1_isTurnOdd 7 = .ok (.if_icmp .ne 7, 3) := by decide +kernel
theorem dX1_isTurnOdd_10 : decode cX1_isTurnOdd 10 = .ok (.iconst 1, 1) := by decide +kernel
theorem dX1_isTurnOdd_11 : decode cX1_isTurnOdd 11 = .ok (.goto 4, 3) := by decide +kernel
theorem dX1_isTurnOdd_14 : decode cX1_isTurnOdd 14 = .ok (.iconst 0, 1) := by decide +kernel
theorem dX1_isTurnOdd_15 : decode cX1_isTurnOdd 15 = .ok (.ireturn, 1) := by decide +kernel
theorem dX1_solutionStep_0 : decode cX1_solutionStep 0 = .ok (.aload_n 0, 1) := by decide +kernel
theorem dX1_solutionStep_1 : decode cX1_solutionStep 1 = .ok (.invokevirtual 80, 3) := by decide +kernel
theorem dX1_solutionStep_4 : decode cX1_solutionStep 4 = .ok (.ifCond .eq 12, 3) := by decide +kernel
theorem dX1_solutionStep_7 : decode cX1_solutionStep 7 = .ok (.iconst 2, 1) := by decide +kernel
theorem dX1_solutionStep_8 : decode cX1_solutionStep 8 = .ok (.aload_n 0, 1) := by decide +kernel
theorem dX1_solutionStep_9 : decode cX1_solutionStep 9 = .ok (.invokevirtual 76, 3) := by decide +kernel
theorem dX1_solutionStep_12 : decode cX1_solutionStep 12 = .ok (.imul, 1) := by decide +kernel
theorem dX1_solutionStep_13 : decode cX1_solutionStep 13 = .ok (.goto 7, 3) := by decide +kernel
theorem dX1_solutionStep_16 : decode cX1_solutionStep 16 = .ok (.aload_n 0, 1) := by decide +kernel
theorem dX1_solutionStep_17 : decode cX1_solutionStep 17 = .ok (.invokevirtual 76, 3) := by decide +kernel
theorem dX1_solutionStep_20 : decode cX1_solutionStep 20 = .ok (.iconst 1, 1) := by decide +kernel
theorem dX1_solutionStep_21 : decode cX1_solutionStep 21 = .ok (.isub, 1) := by decide +kernel
theorem dX1_solutionStep_22 : decode cX1_solutionStep 22 = .ok (.ireturn, 1) := by decide +kernel
theorem dX2_init_0 : decode cX2_init 0 = .ok (.aload_n 0, 1) := by decide +kernel
theorem dX2_init_1 : decode cX2_init 1 = .ok (.invokespecial 3, 3) := by decide +kernel
theorem dX2_init_4 : decode cX2_init 4 = .ok (.aload_n 0, 1) := by decide +kernel
theorem dX2_init_5 : decode cX2_init 5 = .ok (.iconst 2, 1) := by decide +kernel
theorem dX2_init_6 : decode cX2_init 6 = .ok (.putfield 9, 3) := by decide +kernel
theorem dX2_init_9 : decode cX2_init 9 = .ok (.aload_n 0, 1) := by decide +kernel
theorem dX2_init_10 : decode cX2_init 10 = .ok (.new 15, 3) := by decide +kernel
theorem dX2_init_13 : decode cX2_init 13 = .ok (.dup, 1) := by decide +kernel
theorem dX2_init_14 : decode cX2_init 14 = .ok (.invokespecial 17, 3) := by decide +kernel
theorem dX2_init_17 : decode cX2_init 17 = .ok (.putfield 18, 3) := by decide +kernel
theorem dX2_init_20 : decode cX2_init 20 = .ok (.aload_n 0, 1) := by decide +kernel
theorem dX2_init_21 : decode cX2_init 21 = .ok (.new 15, 3) := by decide +kernel
theorem dX2_init_24 : decode cX2_init 24 = .ok (.dup, 1) := by decide +kernel
theorem dX2_init_25 : decode cX2_init 25 = .ok (.invokespecial 17, 3) := by decide +kernel
theorem dX2_init_28 : decode cX2_init 28 = .ok (.putfield 22, 3) := by decide +kernel
theorem dX2_init_31 : decode cX2_init 31 = .ok (.aload_n 0, 1) := by decide +kernel
theorem dX2_init_32 : decode cX2_init 32 = .ok (.getfield 18, 3) := by decide +kernel
theorem dX2_init_35 : decode cX2_init 35 = .ok (.lconst 1, 1) := by decide +kernel
theorem dX2_init_36 : decode cX2_init 36 = .ok (.invokevirtual 25, 3) := by decide +kernel
theorem dX2_init_39 : decode cX2_init 39 = .ok (.return_, 1) := by decide +kernel
theorem dX2_setNumbers_0 : decode cX2_setNumbers 0 = .ok (.aload_n 0, 1) := by decide +kernel
theorem dX2_setNumbers_1 : decode cX2_setNumbers 1 = .ok (.iload_n 1, 1) := by decide +kernel
theorem dX2_setNumbers_2 : decode cX2_setNumbers 2 = .ok (.putfield 9, 3) := by decide +kernel
theorem dX2_setNumbers_5 : decode cX2_setNumbers 5 = .ok (.aload_n 0, 1) := by decide +kernel
theorem dX2_setNumbers_6 : decode cX2_setNumbers 6 = .ok (.getfield 18, 3) := by decide +kernel
theorem dX2_setNumbers_9 : decode cX2_setNumbers 9 = .ok (.iload_n 2, 1) := by decide +kernel
theorem dX2_setNumbers_10 : decode cX2_setNumbers 10 = .ok (.i2l, 1) := by decide +kernel
theorem dX2_setNumbers_11 : decode cX2_setNumbers 11 = .ok (.invokevirtual 25, 3) := by decide +kernel
theorem dX2_setNumbers_14 : decode cX2_setNumbers 14 = .ok (.aload_n 0, 1) := by decide +kernel
theorem dX2_setNumbers_15 : decode cX2_setNumbers 15 = .ok (.getfield 22, 3) := by decide +kernel
theorem dX2_setNumbers_18 : decode cX2_setNumbers 18 = .ok (.iload_n 3, 1) := by decide +kernel
theorem dX2_setNumbers_19 : decode cX2_setNumbers 19 = .ok (.i2l, 1) := by decide +kernel
theorem dX2_setNumbers_20 : decode cX2_setNumbers 20 = .ok (.invokevirtual 25, 3) := by decide +kernel
theorem dX2_setNumbers_23 : decode cX2_setNumbers 23 = .ok (.return_, 1) := by decide +kernel
theorem dX2_setWholes_0 : decode cX2_setWholes 0 = .ok (.aload_n 0, 1) := by decide +kernel
theorem dX2_setWholes_1 : decode cX2_setWholes 1 = .ok (.iload_n 1, 1) := by decide +kernel
theorem dX2_setWholes_2 : decode cX2_setWholes 2 = .ok (.putfield 9, 3) := by decide +kernel
theorem dX2_setWholes_5 : decode cX2_setWholes 5 = .ok (.aload_n 0, 1) := by decide +kernel
theorem dX2_setWholes_6 : decode cX2_setWholes 6 = .ok (.getfield 18, 3) := by decide +kernel
theorem dX2_setWholes_9 : decode cX2_setWholes 9 = .ok (.aload_n 2, 1) := by decide +kernel
theorem dX2_setWholes_10 : decode cX2_setWholes 10 = .ok (.invokevirtual 29, 3) := by decide +kernel
theorem dX2_setWholes_13 : decode cX2_setWholes 13 = .ok (.aload_n 0, 1) := by decide +kernel
theorem dX2_setWholes_14 : decode cX2_setWholes 14 = .ok (.getfield 22, 3) := by decide +kernel
theorem dX2_setWholes_17 : decode cX2_setWholes 17 = .ok (.aload_n 3, 1) := by decide +kernel
theorem dX2_setWholes_18 : decode cX2_setWholes 18 = .ok (.invokevirtual 29, 3) := by decide +kernel
theorem dX2_setWholes_21 : decode cX2_setWholes 21 = .ok (.return_, 1) := by decide +kernel
theorem dX2_setPair_0 : decode cX2_setPair 0 = .ok (.aload_n 0, 1) := by decide +kernel
theorem dX2_setPair_1 : decode cX2_setPair 1 = .ok (.aload_n 1, 1) := by decide +kernel
theorem dX2_setPair_2 : decode cX2_setPair 2 = .ok (.getfield 9, 3) := by decide +kernel
theorem dX2_setPair_5 : decode cX2_setPair 5 = .ok (.aload_n 1, 1) := by decide +kernel
theorem dX2_setPair_6 : decode cX2_setPair 6 = .ok (.getfield 18, 3) := by decide +kernel
theorem dX2_setPair_9 : decode cX2_setPair 9 = .ok (.aload_n 1, 1) := by decide +kernel
theorem dX2_setPair_10 : decode cX2_setPair 10 = .ok (.getfield 22, 3) := by decide +kernel
theorem dX2_setPair_13 : decode cX2_setPair 13 = .ok (.invokevirtual 33, 3) := by decide +kernel
theorem dX2_setPair_16 : decode cX2_setPair 16 = .ok (.return_, 1) := by decide +kernel
theorem dX2_side_0 : decode cX2_side 0 = .ok (.iload_n 1, 1) := by decide +kernel
theorem dX2_side_1 : decode cX2_side 1 = .ok (.ifCond .eq 10, 3) := by decide +kernel
theorem dX2_side_4 : decode cX2_side 4 = .ok (.aload_n 0, 1) := by decide +kernel
theorem dX2_side_5 : decode cX2_side 5 = .ok (.getfield 18, 3) := by decide +kernel
theorem dX2_side_8 : decode cX2_side 8 = .ok (.goto 7, 3) := by decide +kernel
theorem dX2_side_11 : decode cX2_side 11 = .ok (.aload_n 0, 1) := by decide +kernel
theorem dX2_side_12 : decode cX2_side 12 = .ok (.getfield 22, 3) := by decide +kernel
theorem dX2_side_15 : decode cX2_side 15 = .ok (.areturn, 1) := by decide +kernel
theorem dX2_isLike_0 : decode cX2_isLike 0 = .ok (.aload_n 0, 1) := by decide +kernel
theorem dX2_isLike_1 : decode cX2_isLike 1 = .ok (.getfield 9, 3) := by decide +kernel
theorem dX2_isLike_4 : decode cX2_isLike 4 = .ok (.aload_n 1, 1) := by decide +kernel
theorem dX2_isLike_5 : decode cX2_isLike 5 = .ok (.getfield 9, 3) := by decide +kernel
theorem dX2_isLike_8 : decode cX2_isLike 8 = .ok (.if_icmp .ne 35, 3) := by decide +kernel
theorem dX2_isLike_11 : decode cX2_isLike 11 = .ok (.aload_n 0, 1) := by decide +kernel
theorem dX2_isLike_12 : decode cX2_isLike 12 = .ok (.getfield 18, 3) := by decide +kernel
theorem dX2_isLike_15 : decode cX2_isLike 15 = .ok (.aload_n 1, 1) := by decide +kernel
theorem dX2_isLike_16 : decode cX2_isLike 16 = .ok (.getfield 18, 3) := by decide +kernel
theorem dX2_isLike_19 : decode cX2_isLike 19 = .ok (.invokevirtual 37, 3) := by decide +kernel
theorem dX2_isLike_22 : decode cX2_isLike 22 = .ok (.ifCond .ne 21, 3) := by decide +kernel
theorem dX2_isLike_25 : decode cX2_isLike 25 = .ok (.aload_n 0, 1) := by decide +kernel
theorem dX2_isLike_26 : decode cX2_isLike 26 = .ok (.getfield 22, 3) := by decide +kernel
theorem dX2_isLike_29 : decode cX2_isLike 29 = .ok (.aload_n 1, 1) := by decide +kernel
theorem dX2_isLike_30 : decode cX2_isLike 30 = .ok (.getfield 22, 3) := by decide +kernel
theorem dX2_isLike_33 : decode cX2_isLike 33 = .ok (.invokevirtual 37, 3) := by decide +kernel
theorem dX2_isLike_36 : decode cX2_isLike 36 = .ok (.ifCond .ne 7, 3) := by decide +kernel
theorem dX2_isLike_39 : decode cX2_isLike 39 = .ok (.iconst 1, 1) := by decide +kernel
theorem dX2_isLike_40 : decode cX2_isLike 40 = .ok (.goto 4, 3) := by decide +kernel
theorem dX2_isLike_43 : decode cX2_isLike 43 = .ok (.iconst 0, 1) := by decide +kernel
theorem dX2_isLike_44 : decode cX2_isLike 44 = .ok (.ireturn, 1) := by decide +kernel
theorem dX2_isTooLong_0 : decode cX2_isTooLong 0 = .ok (.aload_n 0, 1) := by decide +kernel
theorem dX2_isTooLong_1 : decode cX2_isTooLong 1 = .ok (.getfield 18, 3) := by decide +kernel
theorem dX2_isTooLong_4 : decode cX2_isTooLong 4 = .ok (.invokevirtual 41, 3) := by decide +kernel
theorem dX2_isTooLong_7 : decode cX2_isTooLong 7 = .ok (.bipush 80, 2) := by decide +kernel
theorem dX2_isTooLong_9 : decode cX2_isTooLong 9 = .ok (.if_icmp .gt 15, 3) := by decide +kernel
theorem dX2_isTooLong_12 : decode cX2_isTooLong 12 = .ok (.aload_n 0, 1) := by decide +kernel
theorem dX2_isTooLong_13 : decode cX2_isTooLong 13 = .ok (.getfield 22, 3) := by decide +kernel
theorem dX2_isTooLong_16 : decode cX2_isTooLong 16 = .ok (.invokevirtual 41, 3) := by decide +kernel
theorem dX2_isTooLong_19 : decode cX2_isTooLong 19 = .ok (.bipush 80, 2) := by decide +kernel
theorem dX2_isTooLong_21 : decode cX2_isTooLong 21 = .ok (.if_icmp .le 7, 3) := by decide +kernel
theorem dX2_isTooLong_24 : decode cX2_isTooLong 24 = .ok (.iconst 1, 1) := by decide +kernel
theorem dX2_isTooLong_25 : decode cX2_isTooLong 25 = .ok (.goto 4, 3) := by decide +kernel
theorem dX2_isTooLong_28 : decode cX2_isTooLong 28 = .ok (.iconst 0, 1) := by decide +kernel
theorem dX2_isTooLong_29 : decode cX2_isTooLong 29 = .ok (.ireturn, 1) := by decide +kernel
theorem dX3_init_0 : decode cX3_init 0 = .ok (.aload_n 0, 1) := by decide +kernel
theorem dX3_init_1 : decode cX3_init 1 = .ok (.invokespecial 3, 3) := by decide +kernel
theorem dX3_init_4 : decode cX3_init 4 = .ok (.aload_n 0, 1) := by decide +kernel
theorem dX3_init_5 : decode cX3_init 5 = .ok (.iconst 5, 1) := by decide +kernel
theorem dX3_init_6 : decode cX3_init 6 = .ok (.invokevirtual 9, 3) := by decide +kernel
theorem dX3_init_9 : decode cX3_init 9 = .ok (.return_, 1) := by decide +kernel
theorem dX3_begin_0 : decode cX3_begin 0 = .ok (.aload_n 0, 1) := by decide +kernel
theorem dX3_begin_1 : decode cX3_begin 1 = .ok (.iload_n 1, 1) := by decide +kernel
theorem dX3_begin_2 : decode cX3_begin 2 = .ok (.putfield 15, 3) := by decide +kernel
theorem dX3_begin_5 : decode cX3_begin 5 = .ok (.aload_n 0, 1) := by decide +kernel
theorem dX3_begin_6 : decode cX3_begin 6 = .ok (.iload_n 1, 1) := by decide +kernel
theorem dX3_begin_7 : decode cX3_begin 7 = .ok (.invokestatic 19, 3) := by decide +kernel
theorem dX3_begin_10 : decode cX3_begin 10 = .ok (.putfield 23, 3) := by decide +kernel
theorem dX3_begin_13 : decode cX3_begin 13 = .ok (.aload_n 0, 1) := by decide +kernel
theorem dX3_begin_14 : decode cX3_begin 14 = .ok (.aload_n 0, 1) := by decide +kernel
theorem dX3_begin_15 : decode cX3_begin 15 = .ok (.getfield 23, 3) := by decide +kernel
theorem dX3_begin_18 : decode cX3_begin 18 = .ok (.iload_n 1, 1) := by decide +kernel
theorem dX3_begin_19 : decode cX3_begin 19 = .ok (.iconst 1, 1) := by decide +kernel
theorem dX3_begin_20 : decode cX3_begin 20 = .ok (.isub, 1) := by decide +kernel
theorem dX3_begin_21 : decode cX3_begin 21 = .ok (.iconst 4, 1) := by decide +kernel
theorem dX3_begin_22 : decode cX3_begin 22 = .ok (.idiv, 1) := by decide +kernel
theorem dX3_begin_23 : decode cX3_begin 23 = .ok (.iload_n 1, 1) := by decide +kernel
theorem dX3_begin_24 : decode cX3_begin 24 = .ok (.invokestatic 26, 3) := by decide +kernel
theorem dX3_begin_27 : decode cX3_begin 27 = .ok (.putfield 30, 3) := by decide +kernel
theorem dX3_begin_30 : decode cX3_begin 30 = .ok (.aload_n 0, 1) := by decide +kernel
theorem dX3_begin_31 : decode cX3_begin 31 = .ok (.iload_n 1, 1) := by decide +kernel
theorem dX3_begin_32 : decode cX3_begin 32 = .ok (.putfield 33, 3) := by decide +kernel
theorem dX3_begin_35 : decode cX3_begin 35 = .ok (.aload_n 0, 1) := by decide +kernel
theorem dX3_begin_36 : decode cX3_begin 36 = .ok (.aload_n 0, 1) := by decide +kernel
theorem dX3_begin_37 : decode cX3_begin 37 = .ok (.getfield 30, 3) := by decide +kernel
theorem dX3_begin_40 : decode cX3_begin 40 = .ok (.putfield 36, 3) := by decide +kernel
theorem dX3_begin_43 : decode cX3_begin 43 = .ok (.aload_n 0, 1) := by decide +kernel
theorem dX3_begin_44 : decode cX3_begin 44 = .ok (.iconst 0, 1) := by decide +kernel
theorem dX3_begin_45 : decode cX3_begin 45 = .ok (.putfield 39, 3) := by decide +kernel
theorem dX3_begin_48 : decode cX3_begin 48 = .ok (.aload_n 0, 1) := by decide +kernel
theorem dX3_begin_49 : decode cX3_begin 49 = .ok (.iconst 1, 1) := by decide +kernel
theorem dX3_begin_50 : decode cX3_begin 50 = .ok (.putfield 42, 3) := by decide +kernel
theorem dX3_begin_53 : decode cX3_begin 53 = .ok (.aload_n 0, 1) := by decide +kernel
theorem dX3_begin_54 : decode cX3_begin 54 = .ok (.iconst 0, 1) := by decide +kernel
theorem dX3_begin_55 : decode cX3_begin 55 = .ok (.putfield 45, 3) := by decide +kernel
theorem dX3_begin_58 : decode cX3_begin 58 = .ok (.return_, 1) := by decide +kernel
theorem dX3_findWitness_0 : decode cX3_findWitness 0 = .ok (.iconst 2, 1) := by decide +kernel
theorem dX3_findWitness_1 : decode cX3_findWitness 1 = .ok (.istore_n 1, 1) := by decide +kernel
theorem dX3_findWitness_2 : decode cX3_findWitness 2 = .ok (.iload_n 1, 1) := by decide +kernel
theorem dX3_findWitness_3 : decode cX3_findWitness 3 = .ok (.iload_n 0, 1) := by decide +kernel
theorem dX3_findWitness_4 : decode cX3_findWitness 4 = .ok (.if_icmp .ge 27, 3) := by decide +kernel
theorem dX3_findWitness_7 : decode cX3_findWitness 7 = .ok (.iload_n 1, 1) := by decide +kernel
theorem dX3_findWitness_8 : decode cX3_findWitness 8 = .ok (.iload_n 0, 1) := by decide +kernel
theorem dX3_findWitness_9 : decode cX3_findWitness 9 = .ok (.iconst 1, 1) := by decide +kernel
theorem dX3_findWitness_10 : decode cX3_findWitness 10 = .ok (.isub, 1) := by decide +kernel
theorem dX3_findWitness_11 : decode cX3_findWitness 11 = .ok (.iconst 2, 1) := by decide +kernel
theorem dX3_findWitness_12 : decode cX3_findWitness 12 = .ok (.idiv, 1) := by decide +kernel
theorem dX3_findWitness_13 : decode cX3_findWitness 13 = .ok (.iload_n 0, 1) := by decide +kernel
theorem dX3_findWitness_14 : decode cX3_findWitness 14 = .ok (.invokestatic 26, 3) := by decide +kernel
theorem dX3_findWitness_17 : decode cX3_findWitness 17 = .ok (.iload_n 0, 1) := by decide +kernel
theorem dX3_findWitness_18 : decode cX3_findWitness 18 = .ok (.iconst 1, 1) := by decide +kernel
theorem dX3_findWitness_19 : decode cX3_findWitness 19 = .ok (.isub, 1) := by decide +kernel
theorem dX3_findWitness_20 : decode cX3_findWitness 20 = .ok (.if_icmp .ne 5, 3) := by decide +kernel
theorem dX3_findWitness_23 : decode cX3_findWitness 23 = .ok (.iload_n 1, 1) := by decide +kernel
theorem dX3_findWitness_24 : decode cX3_findWitness 24 = .ok (.ireturn, 1) := by decide +kernel
theorem dX3_findWitness_25 : decode cX3_findWitness 25 = .ok (.iinc 1 1, 3) := by decide +kernel
theorem dX3_findWitness_28 : decode cX3_findWitness 28 = .ok (.goto (-26), 3) := by decide +kernel
theorem dX3_findWitness_31 : decode cX3_findWitness 31 = .ok (.iconst 0, 1) := by decide +kernel
theorem dX3_findWitness_32 : decode cX3_findWitness 32 = .ok (.ireturn, 1) := by decide +kernel
theorem dX3_isSettled_0 : decode cX3_isSettled 0 = .ok (.aload_n 0, 1) := by decide +kernel
theorem dX3_isSettled_1 : decode cX3_isSettled 1 = .ok (.getfield 33, 3) := by decide +kernel
theorem dX3_isSettled_4 : decode cX3_isSettled 4 = .ok (.aload_n 0, 1) := by decide +kernel
theorem dX3_isSettled_5 : decode cX3_isSettled 5 = .ok (.getfield 33, 3) := by decide +kernel
theorem dX3_isSettled_8 : decode cX3_isSettled 8 = .ok (.imul, 1) := by decide +kernel
theorem dX3_isSettled_9 : decode cX3_isSettled 9 = .ok (.aload_n 0, 1) := by decide +kernel
theorem dX3_isSettled_10 : decode cX3_isSettled 10 = .ok (.getfield 15, 3) := by decide +kernel
theorem dX3_isSettled_13 : decode cX3_isSettled 13 = .ok (.if_icmp .ge 7, 3) := by decide +kernel
theorem dX3_isSettled_16 : decode cX3_isSettled 16 = .ok (.iconst 1, 1) := by decide +kernel
theorem dX3_isSettled_17 : decode cX3_isSettled 17 = .ok (.goto 4, 3) := by decide +kernel
theorem dX3_isSettled_20 : decode cX3_isSettled 20 = .ok (.iconst 0, 1) := by decide +kernel
theorem dX3_isSettled_21 : decode cX3_isSettled 21 = .ok (.ireturn, 1) := by decide +kernel
theorem dX3_goOn_0 : decode cX3_goOn 0 = .ok (.aload_n 0, 1) := by decide +kernel
theorem dX3_goOn_1 : decode cX3_goOn 1 = .ok (.getfield 36, 3) := by decide +kernel
theorem dX3_goOn_4 : decode cX3_goOn 4 = .ok (.ifCond .ne 4, 3) := by decide +kernel
theorem dX3_goOn_7 : decode cX3_goOn 7 = .ok (.return_, 1) := by decide +kernel
theorem dX3_goOn_8 : decode cX3_goOn 8 = .ok (.aload_n 0, 1) := by decide +kernel
theorem dX3_goOn_9 : decode cX3_goOn 9 = .ok (.getfield 33, 3) := by decide +kernel
theorem dX3_goOn_12 : decode cX3_goOn 12 = .ok (.aload_n 0, 1) := by decide +kernel
theorem dX3_goOn_13 : decode cX3_goOn 13 = .ok (.getfield 36, 3) := by decide +kernel
theorem dX3_goOn_16 : decode cX3_goOn 16 = .ok (.idiv, 1) := by decide +kernel
theorem dX3_goOn_17 : decode cX3_goOn 17 = .ok (.istore_n 1, 1) := by decide +kernel
theorem dX3_goOn_18 : decode cX3_goOn 18 = .ok (.aload_n 0, 1) := by decide +kernel
theorem dX3_goOn_19 : decode cX3_goOn 19 = .ok (.getfield 33, 3) := by decide +kernel
theorem dX3_goOn_22 : decode cX3_goOn 22 = .ok (.iload_n 1, 1) := by decide +kernel
theorem dX3_goOn_23 : decode cX3_goOn 23 = .ok (.aload_n 0, 1) := by decide +kernel
theorem dX3_goOn_24 : decode cX3_goOn 24 = .ok (.getfield 36, 3) := by decide +kernel
theorem dX3_goOn_27 : decode cX3_goOn 27 = .ok (.imul, 1) := by decide +kernel
theorem dX3_goOn_28 : decode cX3_goOn 28 = .ok (.isub, 1) := by decide +kernel
theorem dX3_goOn_29 : decode cX3_goOn 29 = .ok (.istore_n 2, 1) := by decide +kernel
theorem dX3_goOn_30 : decode cX3_goOn 30 = .ok (.aload_n 0, 1) := by decide +kernel
theorem dX3_goOn_31 : decode cX3_goOn 31 = .ok (.getfield 39, 3) := by decide +kernel
theorem dX3_goOn_34 : decode cX3_goOn 34 = .ok (.iload_n 1, 1) := by decide +kernel
theorem dX3_goOn_35 : decode cX3_goOn 35 = .ok (.aload_n 0, 1) := by decide +kernel
theorem dX3_goOn_36 : decode cX3_goOn 36 = .ok (.getfield 42, 3) := by decide +kernel
theorem dX3_goOn_39 : decode cX3_goOn 39 = .ok (.imul, 1) := by decide +kernel
theorem dX3_goOn_40 : decode cX3_goOn 40 = .ok (.isub, 1) := by decide +kernel
theorem dX3_goOn_41 : decode cX3_goOn 41 = .ok (.istore_n 3, 1) := by decide +kernel
theorem dX3_goOn_42 : decode cX3_goOn 42 = .ok (.aload_n 0, 1) := by decide +kernel
theorem dX3_goOn_43 : decode cX3_goOn 43 = .ok (.aload_n 0, 1) := by decide +kernel
theorem dX3_goOn_44 : decode cX3_goOn 44 = .ok (.getfield 36, 3) := by decide +kernel
theorem dX3_goOn_47 : decode cX3_goOn 47 = .ok (.putfield 33, 3) := by decide +kernel
theorem dX3_goOn_50 : decode cX3_goOn 50 = .ok (.aload_n 0, 1) := by decide +kernel
theorem dX3_goOn_51 : decode cX3_goOn 51 = .ok (.iload_n 2, 1) := by decide +kernel
theorem dX3_goOn_52 : decode cX3_goOn 52 = .ok (.putfield 36, 3) := by decide +kernel
theorem dX3_goOn_55 : decode cX3_goOn 55 = .ok (.aload_n 0, 1) := by decide +kernel
theorem dX3_goOn_56 : decode cX3_goOn 56 = .ok (.aload_n 0, 1) := by decide +kernel
theorem dX3_goOn_57 : decode cX3_goOn 57 = .ok (.getfield 42, 3) := by decide +kernel
theorem dX3_goOn_60 : decode cX3_goOn 60 = .ok (.putfield 39, 3) := by decide +kernel
theorem dX3_goOn_63 : decode cX3_goOn 63 = .ok (.aload_n 0, 1) := by decide +kernel
theorem dX3_goOn_64 : decode cX3_goOn 64 = .ok (.iload_n 3, 1) := by decide +kernel
theorem dX3_goOn_65 : decode cX3_goOn 65 = .ok (.putfield 42, 3) := by decide +kernel
theorem dX3_goOn_68 : decode cX3_goOn 68 = .ok (.aload_n 0, 1) := by decide +kernel
theorem dX3_goOn_69 : decode cX3_goOn 69 = .ok (.dup, 1) := by decide +kernel
theorem dX3_goOn_70 : decode cX3_goOn 70 = .ok (.getfield 45, 3) := by decide +kernel
theorem dX3_goOn_73 : decode cX3_goOn 73 = .ok (.iconst 1, 1) := by decide +kernel
theorem dX3_goOn_74 : decode cX3_goOn 74 = .ok (.iadd, 1) := by decide +kernel
theorem dX3_goOn_75 : decode cX3_goOn 75 = .ok (.putfield 45, 3) := by decide +kernel
theorem dX3_goOn_78 : decode cX3_goOn 78 = .ok (.return_, 1) := by decide +kernel
theorem dX3_goOnToSettled_0 : decode cX3_goOnToSettled 0 = .ok (.iconst 0, 1) := by decide +kernel
theorem dX3_goOnToSettled_1 : decode cX3_goOnToSettled 1 = .ok (.istore_n 1, 1) := by decide +kernel
theorem dX3_goOnToSettled_2 : decode cX3_goOnToSettled 2 = .ok (.iconst 0, 1) := by decide +kernel
theorem dX3_goOnToSettled_3 : decode cX3_goOnToSettled 3 = .ok (.istore_n 2, 1) := by decide +kernel
theorem dX3_goOnToSettled_4 : decode cX3_goOnToSettled 4 = .ok (.iload_n 2, 1) := by decide +kernel
theorem dX3_goOnToSettled_5 : decode cX3_goOnToSettled 5 = .ok (.sipush 1000, 3) := by decide +kernel
theorem dX3_goOnToSettled_8 : decode cX3_goOnToSettled 8 = .ok (.if_icmp .ge 30, 3) := by decide +kernel
theorem dX3_goOnToSettled_11 : decode cX3_goOnToSettled 11 = .ok (.aload_n 0, 1) := by decide +kernel
theorem dX3_goOnToSettled_12 : decode cX3_goOnToSettled 12 = .ok (.getfield 36, 3) := by decide +kernel
theorem dX3_goOnToSettled_15 : decode cX3_goOnToSettled 15 = .ok (.ifCond .eq 23, 3) := by decide +kernel
theorem dX3_goOnToSettled_18 : decode cX3_goOnToSettled 18 = .ok (.aload_n 0, 1) := by decide +kernel
theorem dX3_goOnToSettled_19 : decode cX3_goOnToSettled 19 = .ok (.invokevirtual 48, 3) := by decide +kernel
theorem dX3_goOnToSettled_22 : decode cX3_goOnToSettled 22 = .ok (.ifCond .ne 16, 3) := by decide +kernel
theorem dX3_goOnToSettled_25 : decode cX3_goOnToSettled 25 = .ok (.aload_n 0, 1) := by decide +kernel
theorem dX3_goOnToSettled_26 : decode cX3_goOnToSettled 26 = .ok (.invokevirtual 52, 3) := by decide +kernel
theorem dX3_goOnToSettled_29 : decode cX3_goOnToSettled 29 = .ok (.iinc 1 1, 3) := by decide +kernel
theorem dX3_goOnToSettled_32 : decode cX3_goOnToSettled 32 = .ok (.iinc 2 1, 3) := by decide +kernel
theorem dX3_goOnToSettled_35 : decode cX3_goOnToSettled 35 = .ok (.goto (-31), 3) := by decide +kernel
theorem dX3_goOnToSettled_38 : decode cX3_goOnToSettled 38 = .ok (.iload_n 1, 1) := by decide +kernel
theorem dX3_goOnToSettled_39 : decode cX3_goOnToSettled 39 = .ok (.ireturn, 1) := by decide +kernel
theorem dX3_number_0 : decode cX3_number 0 = .ok (.iload_n 1, 1) := by decide +kernel
theorem dX3_number_1 : decode cX3_number 1 = .ok (.tableswitch 78 0 6 #[43, 48, 53, 58, 63, 68, 73], 43) := by decide +kernel
theorem dX3_number_44 : decode cX3_number 44 = .ok (.aload_n 0, 1) := by decide +kernel
theorem dX3_number_45 : decode cX3_number 45 = .ok (.getfield 15, 3) := by decide +kernel
theorem dX3_number_48 : decode cX3_number 48 = .ok (.ireturn, 1) := by decide +kernel
theorem dX3_number_49 : decode cX3_number 49 = .ok (.aload_n 0, 1) := by decide +kernel
theorem dX3_number_50 : decode cX3_number 50 = .ok (.getfield 23, 3) := by decide +kernel
theorem dX3_number_53 : decode cX3_number 53 = .ok (.ireturn, 1) := by decide +kernel
theorem dX3_number_54 : decode cX3_number 54 = .ok (.aload_n 0, 1) := by decide +kernel
theorem dX3_number_55 : decode cX3_number 55 = .ok (.getfield 30, 3) := by decide +kernel
theorem dX3_number_58 : decode cX3_number 58 = .ok (.ireturn, 1) := by decide +kernel
theorem dX3_number_59 : decode cX3_number 59 = .ok (.aload_n 0, 1) := by decide +kernel
theorem dX3_number_60 : decode cX3_number 60 = .ok (.getfield 33, 3) := by decide +kernel
theorem dX3_number_63 : decode cX3_number 63 = .ok (.ireturn, 1) := by decide +kernel
theorem dX3_number_64 : decode cX3_number 64 = .ok (.aload_n 0, 1) := by decide +kernel
theorem dX3_number_65 : decode cX3_number 65 = .ok (.getfield 36, 3) := by decide +kernel
theorem dX3_number_68 : decode cX3_number 68 = .ok (.ireturn, 1) := by decide +kernel
theorem dX3_number_69 : decode cX3_number 69 = .ok (.aload_n 0, 1) := by decide +kernel
theorem dX3_number_70 : decode cX3_number 70 = .ok (.getfield 39, 3) := by decide +kernel
theorem dX3_number_73 : decode cX3_number 73 = .ok (.ireturn, 1) := by decide +kernel
theorem dX3_number_74 : decode cX3_number 74 = .ok (.aload_n 0, 1) := by decide +kernel
theorem dX3_number_75 : decode cX3_number 75 = .ok (.getfield 42, 3) := by decide +kernel
theorem dX3_number_78 : decode cX3_number 78 = .ok (.ireturn, 1) := by decide +kernel
theorem dX3_number_79 : decode cX3_number 79 = .ok (.aload_n 0, 1) := by decide +kernel
theorem dX3_number_80 : decode cX3_number 80 = .ok (.getfield 45, 3) := by decide +kernel
theorem dX3_number_83 : decode cX3_number 83 = .ok (.ireturn, 1) := by decide +kernel
theorem dX3_isSoundSplit_0 : decode cX3_isSoundSplit 0 = .ok (.aload_n 0, 1) := by decide +kernel
theorem dX3_isSoundSplit_1 : decode cX3_isSoundSplit 1 = .ok (.getfield 33, 3) := by decide +kernel
theorem dX3_isSoundSplit_4 : decode cX3_isSoundSplit 4 = .ok (.i2l, 1) := by decide +kernel
theorem dX3_isSoundSplit_5 : decode cX3_isSoundSplit 5 = .ok (.aload_n 0, 1) := by decide +kernel
theorem dX3_isSoundSplit_6 : decode cX3_isSoundSplit 6 = .ok (.getfield 33, 3) := by decide +kernel
theorem dX3_isSoundSplit_9 : decode cX3_isSoundSplit 9 = .ok (.i2l, 1) := by decide +kernel
theorem dX3_isSoundSplit_10 : decode cX3_isSoundSplit 10 = .ok (.lmul, 1) := by decide +kernel
theorem dX3_isSoundSplit_11 : decode cX3_isSoundSplit 11 = .ok (.aload_n 0, 1) := by decide +kernel
theorem dX3_isSoundSplit_12 : decode cX3_isSoundSplit 12 = .ok (.getfield 39, 3) := by decide +kernel
theorem dX3_isSoundSplit_15 : decode cX3_isSoundSplit 15 = .ok (.i2l, 1) := by decide +kernel
theorem dX3_isSoundSplit_16 : decode cX3_isSoundSplit 16 = .ok (.aload_n 0, 1) := by decide +kernel
theorem dX3_isSoundSplit_17 : decode cX3_isSoundSplit 17 = .ok (.getfield 39, 3) := by decide +kernel
theorem dX3_isSoundSplit_20 : decode cX3_isSoundSplit 20 = .ok (.i2l, 1) := by decide +kernel
theorem dX3_isSoundSplit_21 : decode cX3_isSoundSplit 21 = .ok (.lmul, 1) := by decide +kernel
theorem dX3_isSoundSplit_22 : decode cX3_isSoundSplit 22 = .ok (.ladd, 1) := by decide +kernel
theorem dX3_isSoundSplit_23 : decode cX3_isSoundSplit 23 = .ok (.aload_n 0, 1) := by decide +kernel
theorem dX3_isSoundSplit_24 : decode cX3_isSoundSplit 24 = .ok (.getfield 15, 3) := by decide +kernel
theorem dX3_isSoundSplit_27 : decode cX3_isSoundSplit 27 = .ok (.invokestatic 55, 3) := by decide +kernel
theorem dX3_isSoundSplit_30 : decode cX3_isSoundSplit 30 = .ok (.ifCond .ne 62, 3) := by decide +kernel
theorem dX3_isSoundSplit_33 : decode cX3_isSoundSplit 33 = .ok (.aload_n 0, 1) := by decide +kernel
theorem dX3_isSoundSplit_34 : decode cX3_isSoundSplit 34 = .ok (.getfield 30, 3) := by decide +kernel
theorem dX3_isSoundSplit_37 : decode cX3_isSoundSplit 37 = .ok (.i2l, 1) := by decide +kernel
theorem dX3_isSoundSplit_38 : decode cX3_isSoundSplit 38 = .ok (.aload_n 0, 1) := by decide +kernel
theorem dX3_isSoundSplit_39 : decode cX3_isSoundSplit 39 = .ok (.getfield 30, 3) := by decide +kernel
theorem dX3_isSoundSplit_42 : decode cX3_isSoundSplit 42 = .ok (.i2l, 1) := by decide +kernel
theorem dX3_isSoundSplit_43 : decode cX3_isSoundSplit 43 = .ok (.lmul, 1) := by decide +kernel
theorem dX3_isSoundSplit_44 : decode cX3_isSoundSplit 44 = .ok (.lconst 1, 1) := by decide +kernel
theorem dX3_isSoundSplit_45 : decode cX3_isSoundSplit 45 = .ok (.ladd, 1) := by decide +kernel
theorem dX3_isSoundSplit_46 : decode cX3_isSoundSplit 46 = .ok (.aload_n 0, 1) := by decide +kernel
theorem dX3_isSoundSplit_47 : decode cX3_isSoundSplit 47 = .ok (.getfield 15, 3) := by decide +kernel
theorem dX3_isSoundSplit_50 : decode cX3_isSoundSplit 50 = .ok (.invokestatic 55, 3) := by decide +kernel
theorem dX3_isSoundSplit_53 : decode cX3_isSoundSplit 53 = .ok (.ifCond .ne 39, 3) := by decide +kernel
theorem dX3_isSoundSplit_56 : decode cX3_isSoundSplit 56 = .ok (.aload_n 0, 1) := by decide +kernel
theorem dX3_isSoundSplit_57 : decode cX3_isSoundSplit 57 = .ok (.getfield 33, 3) := by decide +kernel
theorem dX3_isSoundSplit_60 : decode cX3_isSoundSplit 60 = .ok (.aload_n 0, 1) := by decide +kernel
theorem dX3_isSoundSplit_61 : decode cX3_isSoundSplit 61 = .ok (.getfield 42, 3) := by decide +kernel
theorem dX3_isSoundSplit_64 : decode cX3_isSoundSplit 64 = .ok (.invokestatic 59, 3) := by decide +kernel
theorem dX3_isSoundSplit_67 : decode cX3_isSoundSplit 67 = .ok (.imul, 1) := by decide +kernel
theorem dX3_isSoundSplit_68 : decode cX3_isSoundSplit 68 = .ok (.aload_n 0, 1) := by decide +kernel
theorem dX3_isSoundSplit_69 : decode cX3_isSoundSplit 69 = .ok (.getfield 36, 3) := by decide +kernel
theorem dX3_isSoundSplit_72 : decode cX3_isSoundSplit 72 = .ok (.aload_n 0, 1) := by decide +kernel
theorem dX3_isSoundSplit_73 : decode cX3_isSoundSplit 73 = .ok (.getfield 39, 3) := by decide +kernel
theorem dX3_isSoundSplit_76 : decode cX3_isSoundSplit 76 = .ok (.invokestatic 59, 3) := by decide +kernel
theorem dX3_isSoundSplit_79 : decode cX3_isSoundSplit 79 = .ok (.imul, 1) := by decide +kernel
theorem dX3_isSoundSplit_80 : decode cX3_isSoundSplit 80 = .ok (.iadd, 1) := by decide +kernel
theorem dX3_isSoundSplit_81 : decode cX3_isSoundSplit 81 = .ok (.aload_n 0, 1) := by decide +kernel
theorem dX3_isSoundSplit_82 : decode cX3_isSoundSplit 82 = .ok (.getfield 15, 3) := by decide +kernel
theorem dX3_isSoundSplit_85 : decode cX3_isSoundSplit 85 = .ok (.if_icmp .ne 7, 3) := by decide +kernel
theorem dX3_isSoundSplit_88 : decode cX3_isSoundSplit 88 = .ok (.iconst 1, 1) := by decide +kernel
theorem dX3_isSoundSplit_89 : decode cX3_isSoundSplit 89 = .ok (.goto 4, 3) := by decide +kernel
theorem dX3_isSoundSplit_92 : decode cX3_isSoundSplit 92 = .ok (.iconst 0, 1) := by decide +kernel
theorem dX3_isSoundSplit_93 : decode cX3_isSoundSplit 93 = .ok (.ireturn, 1) := by decide +kernel
theorem dX4_init_0 : decode cX4_init 0 = .ok (.aload_n 0, 1) := by decide +kernel
theorem dX4_init_1 : decode cX4_init 1 = .ok (.invokespecial 3, 3) := by decide +kernel
theorem dX4_init_4 : decode cX4_init 4 = .ok (.aload_n 0, 1) := by decide +kernel
theorem dX4_init_5 : decode cX4_init 5 = .ok (.iconst 2, 1) := by decide +kernel
theorem dX4_init_6 : decode cX4_init 6 = .ok (.putfield 9, 3) := by decide +kernel
theorem dX4_init_9 : decode cX4_init 9 = .ok (.return_, 1) := by decide +kernel
theorem dX5_init_0 : decode cX5_init 0 = .ok (.aload_n 0, 1) := by decide +kernel
theorem dX5_init_1 : decode cX5_init 1 = .ok (.invokespecial 3, 3) := by decide +kernel
theorem dX5_init_4 : decode cX5_init 4 = .ok (.aload_n 0, 1) := by decide +kernel
theorem dX5_init_5 : decode cX5_init 5 = .ok (.bipush 18, 2) := by decide +kernel
theorem dX5_init_7 : decode cX5_init 7 = .ok (.newarray .int, 2) := by decide +kernel
theorem dX5_init_9 : decode cX5_init 9 = .ok (.putfield 9, 3) := by decide +kernel
theorem dX5_init_12 : decode cX5_init 12 = .ok (.return_, 1) := by decide +kernel
theorem dX5_isBelow_0 : decode cX5_isBelow 0 = .ok (.aload_n 0, 1) := by decide +kernel
theorem dX5_isBelow_1 : decode cX5_isBelow 1 = .ok (.getfield 13, 3) := by decide +kernel
theorem dX5_isBelow_4 : decode cX5_isBelow 4 = .ok (.ireturn, 1) := by decide +kernel
theorem dX5_isZero_0 : decode cX5_isZero 0 = .ok (.aload_n 0, 1) := by decide +kernel
theorem dX5_isZero_1 : decode cX5_isZero 1 = .ok (.getfield 17, 3) := by decide +kernel
theorem dX5_isZero_4 : decode cX5_isZero 4 = .ok (.ifCond .ne 7, 3) := by decide +kernel
theorem dX5_isZero_7 : decode cX5_isZero 7 = .ok (.iconst 1, 1) := by decide +kernel
theorem dX5_isZero_8 : decode cX5_isZero 8 = .ok (.goto 4, 3) := by decide +kernel
theorem dX5_isZero_11 : decode cX5_isZero 11 = .ok (.iconst 0, 1) := by decide +kernel
theorem dX5_isZero_12 : decode cX5_isZero 12 = .ok (.ireturn, 1) := by decide +kernel
theorem dX5_isOne_0 : decode cX5_isOne 0 = .ok (.aload_n 0, 1) := by decide +kernel
theorem dX5_isOne_1 : decode cX5_isOne 1 = .ok (.iconst 1, 1) := by decide +kernel
theorem dX5_isOne_2 : decode cX5_isOne 2 = .ok (.invokevirtual 21, 3) := by decide +kernel
theorem dX5_isOne_5 : decode cX5_isOne 5 = .ok (.ireturn, 1) := by decide +kernel
theorem dX5_isNumber_0 : decode cX5_isNumber 0 = .ok (.aload_n 0, 1) := by decide +kernel
theorem dX5_isNumber_1 : decode cX5_isNumber 1 = .ok (.getfield 17, 3) := by decide +kernel
theorem dX5_isNumber_4 : decode cX5_isNumber 4 = .ok (.iconst 1, 1) := by decide +kernel
theorem dX5_isNumber_5 : decode cX5_isNumber 5 = .ok (.if_icmp .gt 34, 3) := by decide +kernel
theorem dX5_isNumber_8 : decode cX5_isNumber 8 = .ok (.aload_n 0, 1) := by decide +kernel
theorem dX5_isNumber_9 : decode cX5_isNumber 9 = .ok (.getfield 13, 3) := by decide +kernel
theorem dX5_isNumber_12 : decode cX5_isNumber 12 = .ok (.ifCond .eq 13, 3) := by decide +kernel
theorem dX5_isNumber_15 : decode cX5_isNumber 15 = .ok (.aload_n 0, 1) := by decide +kernel
theorem dX5_isNumber_16 : decode cX5_isNumber 16 = .ok (.getfield 9, 3) := by decide +kernel
theorem dX5_isNumber_19 : decode cX5_isNumber 19 = .ok (.iconst 0, 1) := by decide +kernel
theorem dX5_isNumber_20 : decode cX5_isNumber 20 = .ok (.iaload, 1) := by decide +kernel
theorem dX5_isNumber_21 : decode cX5_isNumber 21 = .ok (.ineg, 1) := by decide +kernel
theorem dX5_isNumber_22 : decode cX5_isNumber 22 = .ok (.goto 9, 3) := by decide +kernel
theorem dX5_isNumber_25 : decode cX5_isNumber 25 = .ok (.aload_n 0, 1) := by decide +kernel
theorem dX5_isNumber_26 : decode cX5_isNumber 26 = .ok (.getfield 9, 3) := by decide +kernel
theorem dX5_isNumber_29 : decode cX5_isNumber 29 = .ok (.iconst 0, 1) := by decide +kernel
theorem dX5_isNumber_30 : decode cX5_isNumber 30 = .ok (.iaload, 1) := by decide +kernel
theorem dX5_isNumber_31 : decode cX5_isNumber 31 = .ok (.iload_n 1, 1) := by decide +kernel
theorem dX5_isNumber_32 : decode cX5_isNumber 32 = .ok (.if_icmp .ne 7, 3) := by decide +kernel
theorem dX5_isNumber_35 : decode cX5_isNumber 35 = .ok (.iconst 1, 1) := by decide +kernel
theorem dX5_isNumber_36 : decode cX5_isNumber 36 = .ok (.goto 4, 3) := by decide +kernel
theorem dX5_isNumber_39 : decode cX5_isNumber 39 = .ok (.iconst 0, 1) := by decide +kernel
theorem dX5_isNumber_40 : decode cX5_isNumber 40 = .ok (.ireturn, 1) := by decide +kernel
theorem dX5_setNumber_0 : decode cX5_setNumber 0 = .ok (.aload_n 0, 1) := by decide +kernel
theorem dX5_setNumber_1 : decode cX5_setNumber 1 = .ok (.invokevirtual 25, 3) := by decide +kernel
theorem dX5_setNumber_4 : decode cX5_setNumber 4 = .ok (.aload_n 0, 1) := by decide +kernel
theorem dX5_setNumber_5 : decode cX5_setNumber 5 = .ok (.lload_n 1, 1) := by decide +kernel
theorem dX5_setNumber_6 : decode cX5_setNumber 6 = .ok (.lconst 0, 1) := by decide +kernel
theorem dX5_setNumber_7 : decode cX5_setNumber 7 = .ok (.lcmp, 1) := by decide +kernel
theorem dX5_setNumber_8 : decode cX5_setNumber 8 = .ok (.ifCond .ge 7, 3) := by decide +kernel
theorem dX5_setNumber_11 : decode cX5_setNumber 11 = .ok (.iconst 1, 1) := by decide +kernel
theorem dX5_setNumber_12 : decode cX5_setNumber 12 = .ok (.goto 4, 3) := by decide +kernel
theorem dX5_setNumber_15 : decode cX5_setNumber 15 = .ok (.iconst 0, 1) := by decide +kernel
theorem dX5_setNumber_16 : decode cX5_setNumber 16 = .ok (.putfield 13, 3) := by decide +kernel
theorem dX5_setNumber_19 : decode cX5_setNumber 19 = .ok (.aload_n 0, 1) := by decide +kernel
theorem dX5_setNumber_20 : decode cX5_setNumber 20 = .ok (.getfield 13, 3) := by decide +kernel
theorem dX5_setNumber_23 : decode cX5_setNumber 23 = .ok (.ifCond .eq 8, 3) := by decide +kernel
theorem dX5_setNumber_26 : decode cX5_setNumber 26 = .ok (.lload_n 1, 1) := by decide +kernel
theorem dX5_setNumber_27 : decode cX5_setNumber 27 = .ok (.lneg, 1) := by decide +kernel
theorem dX5_setNumber_28 : decode cX5_setNumber 28 = .ok (.goto 4, 3) := by decide +kernel
theorem dX5_setNumber_31 : decode cX5_setNumber 31 = .ok (.lload_n 1, 1) := by decide +kernel
theorem dX5_setNumber_32 : decode cX5_setNumber 32 = .ok (.lstore_n 3, 1) := by decide +kernel
theorem dX5_setNumber_33 : decode cX5_setNumber 33 = .ok (.iconst 0, 1) := by decide +kernel
theorem dX5_setNumber_34 : decode cX5_setNumber 34 = .ok (.istore 5, 2) := by decide +kernel
theorem dX5_setNumber_36 : decode cX5_setNumber 36 = .ok (.iload 5, 2) := by decide +kernel
theorem dX5_setNumber_38 : decode cX5_setNumber 38 = .ok (.bipush 18, 2) := by decide +kernel
theorem dX5_setNumber_40 : decode cX5_setNumber 40 = .ok (.if_icmp .ge 33, 3) := by decide +kernel
theorem dX5_setNumber_43 : decode cX5_setNumber 43 = .ok (.lload_n 3, 1) := by decide +kernel
theorem dX5_setNumber_44 : decode cX5_setNumber 44 = .ok (.lconst 0, 1) := by decide +kernel
theorem dX5_setNumber_45 : decode cX5_setNumber 45 = .ok (.lcmp, 1) := by decide +kernel
theorem dX5_setNumber_46 : decode cX5_setNumber 46 = .ok (.ifCond .eq 27, 3) := by decide +kernel
theorem dX5_setNumber_49 : decode cX5_setNumber 49 = .ok (.aload_n 0, 1) := by decide +kernel
theorem dX5_setNumber_50 : decode cX5_setNumber 50 = .ok (.getfield 9, 3) := by decide +kernel
theorem dX5_setNumber_53 : decode cX5_setNumber 53 = .ok (.iload 5, 2) := by decide +kernel
theorem dX5_setNumber_55 : decode cX5_setNumber 55 = .ok (.lload_n 3, 1) := by decide +kernel
theorem dX5_setNumber_56 : decode cX5_setNumber 56 = .ok (.ldc2_w 28, 3) := by decide +kernel
theorem dX5_setNumber_59 : decode cX5_setNumber 59 = .ok (.land, 1) := by decide +kernel
theorem dX5_setNumber_60 : decode cX5_setNumber 60 = .ok (.l2i, 1) := by decide +kernel
theorem dX5_setNumber_61 : decode cX5_setNumber 61 = .ok (.iastore, 1) := by decide +kernel
theorem dX5_setNumber_62 : decode cX5_setNumber 62 = .ok (.lload_n 3, 1) := by decide +kernel
theorem dX5_setNumber_63 : decode cX5_setNumber 63 = .ok (.bipush 28, 2) := by decide +kernel
theorem dX5_setNumber_65 : decode cX5_setNumber 65 = .ok (.lushr, 1) := by decide +kernel
theorem dX5_setNumber_66 : decode cX5_setNumber 66 = .ok (.lstore_n 3, 1) := by decide +kernel
theorem dX5_setNumber_67 : decode cX5_setNumber 67 = .ok (.iinc 5 1, 3) := by decide +kernel
theorem dX5_setNumber_70 : decode cX5_setNumber 70 = .ok (.goto (-34), 3) := by decide +kernel
theorem dX5_setNumber_73 : decode cX5_setNumber 73 = .ok (.aload_n 0, 1) := by decide +kernel
theorem dX5_setNumber_74 : decode cX5_setNumber 74 = .ok (.bipush 18, 2) := by decide +kernel
theorem dX5_setNumber_76 : decode cX5_setNumber 76 = .ok (.invokevirtual 30, 3) := by decide +kernel
theorem dX5_setNumber_79 : decode cX5_setNumber 79 = .ok (.return_, 1) := by decide +kernel
theorem dX5_setWhole_0 : decode cX5_setWhole 0 = .ok (.aload_n 1, 1) := by decide +kernel
theorem dX5_setWhole_1 : decode cX5_setWhole 1 = .ok (.getfield 9, 3) := by decide +kernel
theorem dX5_setWhole_4 : decode cX5_setWhole 4 = .ok (.iconst 0, 1) := by decide +kernel
theorem dX5_setWhole_5 : decode cX5_setWhole 5 = .ok (.aload_n 0, 1) := by decide +kernel
theorem dX5_setWhole_6 : decode cX5_setWhole 6 = .ok (.getfield 9, 3) := by decide +kernel
theorem dX5_setWhole_9 : decode cX5_setWhole 9 = .ok (.iconst 0, 1) := by decide +kernel
theorem dX5_setWhole_10 : decode cX5_setWhole 10 = .ok (.bipush 18, 2) := by decide +kernel
theorem dX5_setWhole_12 : decode cX5_setWhole 12 = .ok (.invokestatic 34, 3) := by decide +kernel
theorem dX5_setWhole_15 : decode cX5_setWhole 15 = .ok (.aload_n 0, 1) := by decide +kernel
theorem dX5_setWhole_16 : decode cX5_setWhole 16 = .ok (.aload_n 1, 1) := by decide +kernel
theorem dX5_setWhole_17 : decode cX5_setWhole 17 = .ok (.getfield 17, 3) := by decide +kernel
theorem dX5_setWhole_20 : decode cX5_setWhole 20 = .ok (.putfield 17, 3) := by decide +kernel
theorem dX5_setWhole_23 : decode cX5_setWhole 23 = .ok (.aload_n 0, 1) := by decide +kernel
theorem dX5_setWhole_24 : decode cX5_setWhole 24 = .ok (.aload_n 1, 1) := by decide +kernel
theorem dX5_setWhole_25 : decode cX5_setWhole 25 = .ok (.getfield 13, 3) := by decide +kernel
theorem dX5_setWhole_28 : decode cX5_setWhole 28 = .ok (.putfield 13, 3) := by decide +kernel
theorem dX5_setWhole_31 : decode cX5_setWhole 31 = .ok (.return_, 1) := by decide +kernel
theorem dX5_negate_0 : decode cX5_negate 0 = .ok (.aload_n 0, 1) := by decide +kernel
theorem dX5_negate_1 : decode cX5_negate 1 = .ok (.aload_n 0, 1) := by decide +kernel
theorem dX5_negate_2 : decode cX5_negate 2 = .ok (.getfield 17, 3) := by decide +kernel
theorem dX5_negate_5 : decode cX5_negate 5 = .ok (.ifCond .le 14, 3) := by decide +kernel
theorem dX5_negate_8 : decode cX5_negate 8 = .ok (.aload_n 0, 1) := by decide +kernel
theorem dX5_negate_9 : decode cX5_negate 9 = .ok (.getfield 13, 3) := by decide +kernel
theorem dX5_negate_12 : decode cX5_negate 12 = .ok (.ifCond .ne 7, 3) := by decide +kernel
theorem dX5_negate_15 : decode cX5_negate 15 = .ok (.iconst 1, 1) := by decide +kernel
theorem dX5_negate_16 : decode cX5_negate 16 = .ok (.goto 4, 3) := by decide +kernel
theorem dX5_negate_19 : decode cX5_negate 19 = .ok (.iconst 0, 1) := by decide +kernel
theorem dX5_negate_20 : decode cX5_negate 20 = .ok (.putfield 13, 3) := by decide +kernel
theorem dX5_negate_23 : decode cX5_negate 23 = .ok (.return_, 1) := by decide +kernel
theorem dX5_makeSize_0 : decode cX5_makeSize 0 = .ok (.aload_n 0, 1) := by decide +kernel
theorem dX5_makeSize_1 : decode cX5_makeSize 1 = .ok (.iconst 0, 1) := by decide +kernel
theorem dX5_makeSize_2 : decode cX5_makeSize 2 = .ok (.putfield 13, 3) := by decide +kernel
theorem dX5_makeSize_5 : decode cX5_makeSize 5 = .ok (.return_, 1) := by decide +kernel
theorem dX5_clear_0 : decode cX5_clear 0 = .ok (.aload_n 0, 1) := by decide +kernel
theorem dX5_clear_1 : decode cX5_clear 1 = .ok (.getfield 9, 3) := by decide +kernel
theorem dX5_clear_4 : decode cX5_clear 4 = .ok (.iconst 0, 1) := by decide +kernel
theorem dX5_clear_5 : decode cX5_clear 5 = .ok (.invokestatic 40, 3) := by decide +kernel
theorem dX5_clear_8 : decode cX5_clear 8 = .ok (.aload_n 0, 1) := by decide +kernel
theorem dX5_clear_9 : decode cX5_clear 9 = .ok (.iconst 0, 1) := by decide +kernel
theorem dX5_clear_10 : decode cX5_clear 10 = .ok (.putfield 17, 3) := by decide +kernel
theorem dX5_clear_13 : decode cX5_clear 13 = .ok (.aload_n 0, 1) := by decide +kernel
theorem dX5_clear_14 : decode cX5_clear 14 = .ok (.iconst 0, 1) := by decide +kernel
theorem dX5_clear_15 : decode cX5_clear 15 = .ok (.putfield 13, 3) := by decide +kernel
theorem dX5_clear_18 : decode cX5_clear 18 = .ok (.return_, 1) := by decide +kernel
theorem dX5_trim_0 : decode cX5_trim 0 = .ok (.aload_n 0, 1) := by decide +kernel
theorem dX5_trim_1 : decode cX5_trim 1 = .ok (.iconst 0, 1) := by decide +kernel
theorem dX5_trim_2 : decode cX5_trim 2 = .ok (.putfield 17, 3) := by decide +kernel
theorem dX5_trim_5 : decode cX5_trim 5 = .ok (.iload_n 1, 1) := by decide +kernel
theorem dX5_trim_6 : decode cX5_trim 6 = .ok (.bipush 18, 2) := by decide +kernel
theorem dX5_trim_8 : decode cX5_trim 8 = .ok (.if_icmp .ge 7, 3) := by decide +kernel
theorem dX5_trim_11 : decode cX5_trim 11 = .ok (.iload_n 1, 1) := by decide +kernel
theorem dX5_trim_12 : decode cX5_trim 12 = .ok (.goto 5, 3) := by decide +kernel
theorem dX5_trim_15 : decode cX5_trim 15 = .ok (.bipush 18, 2) := by decide +kernel
theorem dX5_trim_17 : decode cX5_trim 17 = .ok (.iconst 1, 1) := by decide +kernel
theorem dX5_trim_18 : decode cX5_trim 18 = .ok (.isub, 1) := by decide +kernel
theorem dX5_trim_19 : decode cX5_trim 19 = .ok (.istore_n 2, 1) := by decide +kernel
theorem dX5_trim_20 : decode cX5_trim 20 = .ok (.iload_n 2, 1) := by decide +kernel
theorem dX5_trim_21 : decode cX5_trim 21 = .ok (.ifCond .lt 32, 3) := by decide +kernel
theorem dX5_trim_24 : decode cX5_trim 24 = .ok (.aload_n 0, 1) := by decide +kernel
theorem dX5_trim_25 : decode cX5_trim 25 = .ok (.getfield 17, 3) := by decide +kernel
theorem dX5_trim_28 : decode cX5_trim 28 = .ok (.ifCond .ne 25, 3) := by decide +kernel
theorem dX5_trim_31 : decode cX5_trim 31 = .ok (.aload_n 0, 1) := by decide +kernel
theorem dX5_trim_32 : decode cX5_trim 32 = .ok (.getfield 9, 3) := by decide +kernel
theorem dX5_trim_35 : decode cX5_trim 35 = .ok (.iload_n 2, 1) := by decide +kernel
theorem dX5_trim_36 : decode cX5_trim 36 = .ok (.iaload, 1) := by decide +kernel
theorem dX5_trim_37 : decode cX5_trim 37 = .ok (.ifCond .eq 10, 3) := by decide +kernel
theorem dX5_trim_40 : decode cX5_trim 40 = .ok (.aload_n 0, 1) := by decide +kernel
theorem dX5_trim_41 : decode cX5_trim 41 = .ok (.iload_n 2, 1) := by decide +kernel
theorem dX5_trim_42 : decode cX5_trim 42 = .ok (.iconst 1, 1) := by decide +kernel
theorem dX5_trim_43 : decode cX5_trim 43 = .ok (.iadd, 1) := by decide +kernel
theorem dX5_trim_44 : decode cX5_trim 44 = .ok (.putfield 17, 3) := by decide +kernel
theorem dX5_trim_47 : decode cX5_trim 47 = .ok (.iinc 2 (-1), 3) := by decide +kernel
theorem dX5_trim_50 : decode cX5_trim 50 = .ok (.goto (-30), 3) := by decide +kernel
theorem dX5_trim_53 : decode cX5_trim 53 = .ok (.aload_n 0, 1) := by decide +kernel
theorem dX5_trim_54 : decode cX5_trim 54 = .ok (.aload_n 0, 1) := by decide +kernel
theorem dX5_trim_55 : decode cX5_trim 55 = .ok (.getfield 13, 3) := by decide +kernel
theorem dX5_trim_58 : decode cX5_trim 58 = .ok (.ifCond .eq 14, 3) := by decide +kernel
theorem dX5_trim_61 : decode cX5_trim 61 = .ok (.aload_n 0, 1) := by decide +kernel
theorem dX5_trim_62 : decode cX5_trim 62 = .ok (.getfield 17, 3) := by decide +kernel
theorem dX5_trim_65 : decode cX5_trim 65 = .ok (.ifCond .le 7, 3) := by decide +kernel
theorem dX5_trim_68 : decode cX5_trim 68 = .ok (.iconst 1, 1) := by decide +kernel
theorem dX5_trim_69 : decode cX5_trim 69 = .ok (.goto 4, 3) := by decide +kernel
theorem dX5_trim_72 : decode cX5_trim 72 = .ok (.iconst 0, 1) := by decide +kernel
theorem dX5_trim_73 : decode cX5_trim 73 = .ok (.putfield 13, 3) := by decide +kernel
theorem dX5_trim_76 : decode cX5_trim 76 = .ok (.return_, 1) := by decide +kernel
theorem dX5_addOrTake_0 : decode cX5_addOrTake 0 = .ok (.aload_n 1, 1) := by decide +kernel
theorem dX5_addOrTake_1 : decode cX5_addOrTake 1 = .ok (.getfield 13, 3) := by decide +kernel
theorem dX5_addOrTake_4 : decode cX5_addOrTake 4 = .ok (.iload_n 2, 1) := by decide +kernel
theorem dX5_addOrTake_5 : decode cX5_addOrTake 5 = .ok (.if_icmp .eq 7, 3) := by decide +kernel
theorem dX5_addOrTake_8 : decode cX5_addOrTake 8 = .ok (.iconst 1, 1) := by decide +kernel
theorem dX5_addOrTake_9 : decode cX5_addOrTake 9 = .ok (.goto 4, 3) := by decide +kernel
theorem dX5_addOrTake_12 : decode cX5_addOrTake 12 = .ok (.iconst 0, 1) := by decide +kernel
theorem dX5_addOrTake_13 : decode cX5_addOrTake 13 = .ok (.istore_n 3, 1) := by decide +kernel
theorem dX5_addOrTake_14 : decode cX5_addOrTake 14 = .ok (.aload_n 0, 1) := by decide +kernel
theorem dX5_addOrTake_15 : decode cX5_addOrTake 15 = .ok (.getfield 13, 3) := by decide +kernel
theorem dX5_addOrTake_18 : decode cX5_addOrTake 18 = .ok (.iload_n 3, 1) := by decide +kernel
theorem dX5_addOrTake_19 : decode cX5_addOrTake 19 = .ok (.if_icmp .ne 11, 3) := by decide +kernel
theorem dX5_addOrTake_22 : decode cX5_addOrTake 22 = .ok (.aload_n 0, 1) := by decide +kernel
theorem dX5_addOrTake_23 : decode cX5_addOrTake 23 = .ok (.aload_n 1, 1) := by decide +kernel
theorem dX5_addOrTake_24 : decode cX5_addOrTake 24 = .ok (.invokevirtual 46, 3) := by decide +kernel
theorem dX5_addOrTake_27 : decode cX5_addOrTake 27 = .ok (.goto 29, 3) := by decide +kernel
theorem dX5_addOrTake_30 : decode cX5_addOrTake 30 = .ok (.aload_n 0, 1) := by decide +kernel
theorem dX5_addOrTake_31 : decode cX5_addOrTake 31 = .ok (.aload_n 1, 1) := by decide +kernel
theorem dX5_addOrTake_32 : decode cX5_addOrTake 32 = .ok (.invokevirtual 50, 3) := by decide +kernel
theorem dX5_addOrTake_35 : decode cX5_addOrTake 35 = .ok (.ifCond .lt 11, 3) := by decide +kernel
theorem dX5_addOrTake_38 : decode cX5_addOrTake 38 = .ok (.aload_n 0, 1) := by decide +kernel
theorem dX5_addOrTake_39 : decode cX5_addOrTake 39 = .ok (.aload_n 1, 1) := by decide +kernel
theorem dX5_addOrTake_40 : decode cX5_addOrTake 40 = .ok (.invokevirtual 54, 3) := by decide +kernel
theorem dX5_addOrTake_43 : decode cX5_addOrTake 43 = .ok (.goto 13, 3) := by decide +kernel
theorem dX5_addOrTake_46 : decode cX5_addOrTake 46 = .ok (.aload_n 0, 1) := by decide +kernel
theorem dX5_addOrTake_47 : decode cX5_addOrTake 47 = .ok (.iload_n 3, 1) := by decide +kernel
theorem dX5_addOrTake_48 : decode cX5_addOrTake 48 = .ok (.putfield 13, 3) := by decide +kernel
theorem dX5_addOrTake_51 : decode cX5_addOrTake 51 = .ok (.aload_n 0, 1) := by decide +kernel
theorem dX5_addOrTake_52 : decode cX5_addOrTake 52 = .ok (.aload_n 1, 1) := by decide +kernel
theorem dX5_addOrTake_53 : decode cX5_addOrTake 53 = .ok (.invokevirtual 57, 3) := by decide +kernel
theorem dX5_addOrTake_56 : decode cX5_addOrTake 56 = .ok (.return_, 1) := by decide +kernel
theorem dX5_addSize_0 : decode cX5_addSize 0 = .ok (.bipush 18, 2) := by decide +kernel
theorem dX5_addSize_2 : decode cX5_addSize 2 = .ok (.aload_n 0, 1) := by decide +kernel
theorem dX5_addSize_3 : decode cX5_addSize 3 = .ok (.getfield 17, 3) := by decide +kernel
theorem dX5_addSize_6 : decode cX5_addSize 6 = .ok (.aload_n 1, 1) := by decide +kernel
theorem dX5_addSize_7 : decode cX5_addSize 7 = .ok (.getfield 17, 3) := by decide +kernel
theorem dX5_addSize_10 : decode cX5_addSize 10 = .ok (.invokestatic 60, 3) := by decide +kernel
theorem dX5_addSize_13 : decode cX5_addSize 13 = .ok (.iconst 1, 1) := by decide +kernel
theorem dX5_addSize_14 : decode cX5_addSize 14 = .ok (.iadd, 1) := by decide +kernel
theorem dX5_addSize_15 : decode cX5_addSize 15 = .ok (.invokestatic 66, 3) := by decide +kernel
theorem dX5_addSize_18 : decode cX5_addSize 18 = .ok (.istore_n 2, 1) := by decide +kernel
theorem dX5_addSize_19 : decode cX5_addSize 19 = .ok (.iconst 0, 1) := by decide +kernel
theorem dX5_addSize_20 : decode cX5_addSize 20 = .ok (.istore_n 3, 1) := by decide +kernel
theorem dX5_addSize_21 : decode cX5_addSize 21 = .ok (.iconst 0, 1) := by decide +kernel
theorem dX5_addSize_22 : decode cX5_addSize 22 = .ok (.istore 4, 2) := by decide +kernel
theorem dX5_addSize_24 : decode cX5_addSize 24 = .ok (.iload 4, 2) := by decide +kernel
theorem dX5_addSize_26 : decode cX5_addSize 26 = .ok (.iload_n 2, 1) := by decide +kernel
theorem dX5_addSize_27 : decode cX5_addSize 27 = .ok (.if_icmp .ge 43, 3) := by decide +kernel
theorem dX5_addSize_30 : decode cX5_addSize 30 = .ok (.iload_n 3, 1) := by decide +kernel
theorem dX5_addSize_31 : decode cX5_addSize 31 = .ok (.aload_n 0, 1) := by decide +kernel
theorem dX5_addSize_32 : decode cX5_addSize 32 = .ok (.getfield 9, 3) := by decide +kernel
theorem dX5_addSize_35 : decode cX5_addSize 35 = .ok (.iload 4, 2) := by decide +kernel
theorem dX5_addSize_37 : decode cX5_addSize 37 = .ok (.iaload, 1) := by decide +kernel
theorem dX5_addSize_38 : decode cX5_addSize 38 = .ok (.aload_n 1, 1) := by decide +kernel
theorem dX5_addSize_39 : decode cX5_addSize 39 = .ok (.getfield 9, 3) := by decide +kernel
theorem dX5_addSize_42 : decode cX5_addSize 42 = .ok (.iload 4, 2) := by decide +kernel
theorem dX5_addSize_44 : decode cX5_addSize 44 = .ok (.iaload, 1) := by decide +kernel
theorem dX5_addSize_45 : decode cX5_addSize 45 = .ok (.iadd, 1) := by decide +kernel
theorem dX5_addSize_46 : decode cX5_addSize 46 = .ok (.iadd, 1) := by decide +kernel
theorem dX5_addSize_47 : decode cX5_addSize 47 = .ok (.istore_n 3, 1) := by decide +kernel
theorem dX5_addSize_48 : decode cX5_addSize 48 = .ok (.aload_n 0, 1) := by decide +kernel
theorem dX5_addSize_49 : decode cX5_addSize 49 = .ok (.getfield 9, 3) := by decide +kernel
theorem dX5_addSize_52 : decode cX5_addSize 52 = .ok (.iload 4, 2) := by decide +kernel
theorem dX5_addSize_54 : decode cX5_addSize 54 = .ok (.iload_n 3, 1) := by decide +kernel
theorem dX5_addSize_55 : decode cX5_addSize 55 = .ok (.ldc 69, 2) := by decide +kernel
theorem dX5_addSize_57 : decode cX5_addSize 57 = .ok (.iand, 1) := by decide +kernel
theorem dX5_addSize_58 : decode cX5_addSize 58 = .ok (.iastore, 1) := by decide +kernel
theorem dX5_addSize_59 : decode cX5_addSize 59 = .ok (.iload_n 3, 1) := by decide +kernel
theorem dX5_addSize_60 : decode cX5_addSize 60 = .ok (.bipush 28, 2) := by decide +kernel
theorem dX5_addSize_62 : decode cX5_addSize 62 = .ok (.iushr, 1) := by decide +kernel
theorem dX5_addSize_63 : decode cX5_addSize 63 = .ok (.istore_n 3, 1) := by decide +kernel
theorem dX5_addSize_64 : decode cX5_addSize 64 = .ok (.iinc 4 1, 3) := by decide +kernel
theorem dX5_addSize_67 : decode cX5_addSize 67 = .ok (.goto (-43), 3) := by decide +kernel
theorem dX5_addSize_70 : decode cX5_addSize 70 = .ok (.aload_n 0, 1) := by decide +kernel
theorem dX5_addSize_71 : decode cX5_addSize 71 = .ok (.iload_n 2, 1) := by decide +kernel
theorem dX5_addSize_72 : decode cX5_addSize 72 = .ok (.invokevirtual 30, 3) := by decide +kernel
theorem dX5_addSize_75 : decode cX5_addSize 75 = .ok (.return_, 1) := by decide +kernel
theorem dX5_takeSize_0 : decode cX5_takeSize 0 = .ok (.bipush 18, 2) := by decide +kernel
theorem dX5_takeSize_2 : decode cX5_takeSize 2 = .ok (.aload_n 0, 1) := by decide +kernel
theorem dX5_takeSize_3 : decode cX5_takeSize 3 = .ok (.getfield 17, 3) := by decide +kernel
theorem dX5_takeSize_6 : decode cX5_takeSize 6 = .ok (.invokestatic 66, 3) := by decide +kernel
theorem dX5_takeSize_9 : decode cX5_takeSize 9 = .ok (.istore_n 2, 1) := by decide +kernel
theorem dX5_takeSize_10 : decode cX5_takeSize 10 = .ok (.iconst 0, 1) := by decide +kernel
theorem dX5_takeSize_11 : decode cX5_takeSize 11 = .ok (.istore_n 3, 1) := by decide +kernel
theorem dX5_takeSize_12 : decode cX5_takeSize 12 = .ok (.iconst 0, 1) := by decide +kernel
theorem dX5_takeSize_13 : decode cX5_takeSize 13 = .ok (.istore 4, 2) := by decide +kernel
theorem dX5_takeSize_15 : decode cX5_takeSize 15 = .ok (.iload 4, 2) := by decide +kernel
theorem dX5_takeSize_17 : decode cX5_takeSize 17 = .ok (.iload_n 2, 1) := by decide +kernel
theorem dX5_takeSize_18 : decode cX5_takeSize 18 = .ok (.if_icmp .ge 51, 3) := by decide +kernel
theorem dX5_takeSize_21 : decode cX5_takeSize 21 = .ok (.aload_n 0, 1) := by decide +kernel
theorem dX5_takeSize_22 : decode cX5_takeSize 22 = .ok (.getfield 9, 3) := by decide +kernel
theorem dX5_takeSize_25 : decode cX5_takeSize 25 = .ok (.iload 4, 2) := by decide +kernel
theorem dX5_takeSize_27 : decode cX5_takeSize 27 = .ok (.iaload, 1) := by decide +kernel
theorem dX5_takeSize_28 : decode cX5_takeSize 28 = .ok (.aload_n 1, 1) := by decide +kernel
theorem dX5_takeSize_29 : decode cX5_takeSize 29 = .ok (.getfield 9, 3) := by decide +kernel
theorem dX5_takeSize_32 : decode cX5_takeSize 32 = .ok (.iload 4, 2) := by decide +kernel
theorem dX5_takeSize_34 : decode cX5_takeSize 34 = .ok (.iaload, 1) := by decide +kernel
theorem dX5_takeSize_35 : decode cX5_takeSize 35 = .ok (.isub, 1) := by decide +kernel
theorem dX5_takeSize_36 : decode cX5_takeSize 36 = .ok (.iload_n 3, 1) := by decide +kernel
theorem dX5_takeSize_37 : decode cX5_takeSize 37 = .ok (.isub, 1) := by decide +kernel
theorem dX5_takeSize_38 : decode cX5_takeSize 38 = .ok (.istore 5, 2) := by decide +kernel
theorem dX5_takeSize_40 : decode cX5_takeSize 40 = .ok (.aload_n 0, 1) := by decide +kernel
theorem dX5_takeSize_41 : decode cX5_takeSize 41 = .ok (.getfield 9, 3) := by decide +kernel
theorem dX5_takeSize_44 : decode cX5_takeSize 44 = .ok (.iload 4, 2) := by decide +kernel
theorem dX5_takeSize_46 : decode cX5_takeSize 46 = .ok (.iload 5, 2) := by decide +kernel
theorem dX5_takeSize_48 : decode cX5_takeSize 48 = .ok (.ldc 69, 2) := by decide +kernel
theorem dX5_takeSize_50 : decode cX5_takeSize 50 = .ok (.iand, 1) := by decide +kernel
theorem dX5_takeSize_51 : decode cX5_takeSize 51 = .ok (.iastore, 1) := by decide +kernel
theorem dX5_takeSize_52 : decode cX5_takeSize 52 = .ok (.iload 5, 2) := by decide +kernel
theorem dX5_takeSize_54 : decode cX5_takeSize 54 = .ok (.ifCond .ge 7, 3) := by decide +kernel
theorem dX5_takeSize_57 : decode cX5_takeSize 57 = .ok (.iconst 1, 1) := by decide +kernel
theorem dX5_takeSize_58 : decode cX5_takeSize 58 = .ok (.goto 4, 3) := by decide +kernel
theorem dX5_takeSize_61 : decode cX5_takeSize 61 = .ok (.iconst 0, 1) := by decide +kernel
theorem dX5_takeSize_62 : decode cX5_takeSize 62 = .ok (.istore_n 3, 1) := by decide +kernel
theorem dX5_takeSize_63 : decode cX5_takeSize 63 = .ok (.iinc 4 1, 3) := by decide +kernel
theorem dX5_takeSize_66 : decode cX5_takeSize 66 = .ok (.goto (-51), 3) := by decide +kernel
theorem dX5_takeSize_69 : decode cX5_takeSize 69 = .ok (.aload_n 0, 1) := by decide +kernel
theorem dX5_takeSize_70 : decode cX5_takeSize 70 = .ok (.iload_n 2, 1) := by decide +kernel
theorem dX5_takeSize_71 : decode cX5_takeSize 71 = .ok (.invokevirtual 30, 3) := by decide +kernel
theorem dX5_takeSize_74 : decode cX5_takeSize 74 = .ok (.return_, 1) := by decide +kernel
theorem dX5_takeFromSize_0 : decode cX5_takeFromSize 0 = .ok (.bipush 18, 2) := by decide +kernel
theorem dX5_takeFromSize_2 : decode cX5_takeFromSize 2 = .ok (.aload_n 1, 1) := by decide +kernel
theorem dX5_takeFromSize_3 : decode cX5_takeFromSize 3 = .ok (.getfield 17, 3) := by decide +kernel
theorem dX5_takeFromSize_6 : decode cX5_takeFromSize 6 = .ok (.invokestatic 66, 3) := by decide +kernel
theorem dX5_takeFromSize_9 : decode cX5_takeFromSize 9 = .ok (.istore_n 2, 1) := by decide +kernel
theorem dX5_takeFromSize_10 : decode cX5_takeFromSize 10 = .ok (.iconst 0, 1) := by decide +kernel
theorem dX5_takeFromSize_11 : decode cX5_takeFromSize 11 = .ok (.istore_n 3, 1) := by decide +kernel
theorem dX5_takeFromSize_12 : decode cX5_takeFromSize 12 = .ok (.iconst 0, 1) := by decide +kernel
theorem dX5_takeFromSize_13 : decode cX5_takeFromSize 13 = .ok (.istore 4, 2) := by decide +kernel
theorem dX5_takeFromSize_15 : decode cX5_takeFromSize 15 = .ok (.iload 4, 2) := by decide +kernel
theorem dX5_takeFromSize_17 : decode cX5_takeFromSize 17 = .ok (.iload_n 2, 1) := by decide +kernel
theorem dX5_takeFromSize_18 : decode cX5_takeFromSize 18 = .ok (.if_icmp .ge 51, 3) := by decide +kernel
theorem dX5_takeFromSize_21 : decode cX5_takeFromSize 21 = .ok (.aload_n 1, 1) := by decide +kernel
theorem dX5_takeFromSize_22 : decode cX5_takeFromSize 22 = .ok (.getfield 9, 3) := by decide +kernel
theorem dX5_takeFromSize_25 : decode cX5_takeFromSize 25 = .ok (.iload 4, 2) := by decide +kernel
theorem dX5_takeFromSize_27 : decode cX5_takeFromSize 27 = .ok (.iaload, 1) := by decide +kernel
theorem dX5_takeFromSize_28 : decode cX5_takeFromSize 28 = .ok (.aload_n 0, 1) := by decide +kernel
theorem dX5_takeFromSize_29 : decode cX5_takeFromSize 29 = .ok (.getfield 9, 3) := by decide +kernel
theorem dX5_takeFromSize_32 : decode cX5_takeFromSize 32 = .ok (.iload 4, 2) := by decide +kernel
theorem dX5_takeFromSize_34 : decode cX5_takeFromSize 34 = .ok (.iaload, 1) := by decide +kernel
theorem dX5_takeFromSize_35 : decode cX5_takeFromSize 35 = .ok (.isub, 1) := by decide +kernel
theorem dX5_takeFromSize_36 : decode cX5_takeFromSize 36 = .ok (.iload_n 3, 1) := by decide +kernel
theorem dX5_takeFromSize_37 : decode cX5_takeFromSize 37 = .ok (.isub, 1) := by decide +kernel
theorem dX5_takeFromSize_38 : decode cX5_takeFromSize 38 = .ok (.istore 5, 2) := by decide +kernel
theorem dX5_takeFromSize_40 : decode cX5_takeFromSize 40 = .ok (.aload_n 0, 1) := by decide +kernel
theorem dX5_takeFromSize_41 : decode cX5_takeFromSize 41 = .ok (.getfield 9, 3) := by decide +kernel
theorem dX5_takeFromSize_44 : decode cX5_takeFromSize 44 = .ok (.iload 4, 2) := by decide +kernel
theorem dX5_takeFromSize_46 : decode cX5_takeFromSize 46 = .ok (.iload 5, 2) := by decide +kernel
theorem dX5_takeFromSize_48 : decode cX5_takeFromSize 48 = .ok (.ldc 69, 2) := by decide +kernel
theorem dX5_takeFromSize_50 : decode cX5_takeFromSize 50 = .ok (.iand, 1) := by decide +kernel
theorem dX5_takeFromSize_51 : decode cX5_takeFromSize 51 = .ok (.iastore, 1) := by decide +kernel
theorem dX5_takeFromSize_52 : decode cX5_takeFromSize 52 = .ok (.iload 5, 2) := by decide +kernel
theorem dX5_takeFromSize_54 : decode cX5_takeFromSize 54 = .ok (.ifCond .ge 7, 3) := by decide +kernel
theorem dX5_takeFromSize_57 : decode cX5_takeFromSize 57 = .ok (.iconst 1, 1) := by decide +kernel
theorem dX5_takeFromSize_58 : decode cX5_takeFromSize 58 = .ok (.goto 4, 3) := by decide +kernel
theorem dX5_takeFromSize_61 : decode cX5_takeFromSize 61 = .ok (.iconst 0, 1) := by decide +kernel
theorem dX5_takeFromSize_62 : decode cX5_takeFromSize 62 = .ok (.istore_n 3, 1) := by decide +kernel
theorem dX5_takeFromSize_63 : decode cX5_takeFromSize 63 = .ok (.iinc 4 1, 3) := by decide +kernel
theorem dX5_takeFromSize_66 : decode cX5_takeFromSize 66 = .ok (.goto (-51), 3) := by decide +kernel
theorem dX5_takeFromSize_69 : decode cX5_takeFromSize 69 = .ok (.aload_n 0, 1) := by decide +kernel
theorem dX5_takeFromSize_70 : decode cX5_takeFromSize 70 = .ok (.iload_n 2, 1) := by decide +kernel
theorem dX5_takeFromSize_71 : decode cX5_takeFromSize 71 = .ok (.invokevirtual 30, 3) := by decide +kernel
theorem dX5_takeFromSize_74 : decode cX5_takeFromSize 74 = .ok (.return_, 1) := by decide +kernel
theorem dX5_setProduct_0 : decode cX5_setProduct 0 = .ok (.aload_n 0, 1) := by decide +kernel
theorem dX5_setProduct_1 : decode cX5_setProduct 1 = .ok (.invokevirtual 25, 3) := by decide +kernel
theorem dX5_setProduct_4 : decode cX5_setProduct 4 = .ok (.bipush 18, 2) := by decide +kernel
theorem dX5_setProduct_6 : decode cX5_setProduct 6 = .ok (.aload_n 1, 1) := by decide +kernel
theorem dX5_setProduct_7 : decode cX5_setProduct 7 = .ok (.getfield 17, 3) := by decide +kernel
theorem dX5_setProduct_10 : decode cX5_setProduct 10 = .ok (.aload_n 2, 1) := by decide +kernel
theorem dX5_setProduct_11 : decode cX5_setProduct 11 = .ok (.getfield 17, 3) := by decide +kernel
theorem dX5_setProduct_14 : decode cX5_setProduct 14 = .ok (.iadd, 1) := by decide +kernel
theorem dX5_setProduct_15 : decode cX5_setProduct 15 = .ok (.invokestatic 66, 3) := by decide +kernel
theorem dX5_setProduct_18 : decode cX5_setProduct 18 = .ok (.istore_n 3, 1) := by decide +kernel
theorem dX5_setProduct_19 : decode cX5_setProduct 19 = .ok (.iconst 0, 1) := by decide +kernel
theorem dX5_setProduct_20 : decode cX5_setProduct 20 = .ok (.istore 4, 2) := by decide +kernel
theorem dX5_setProduct_22 : decode cX5_setProduct 22 = .ok (.iload 4, 2) := by decide +kernel
theorem dX5_setProduct_24 : decode cX5_setProduct 24 = .ok (.aload_n 1, 1) := by decide +kernel
theorem dX5_setProduct_25 : decode cX5_setProduct 25 = .ok (.getfield 17, 3) := by decide +kernel
theorem dX5_setProduct_28 : decode cX5_setProduct 28 = .ok (.if_icmp .ge 103, 3) := by decide +kernel
theorem dX5_setProduct_31 : decode cX5_setProduct 31 = .ok (.iload 4, 2) := by decide +kernel
theorem dX5_setProduct_33 : decode cX5_setProduct 33 = .ok (.iload_n 3, 1) := by decide +kernel
theorem dX5_setProduct_34 : decode cX5_setProduct 34 = .ok (.if_icmp .ge 97, 3) := by decide +kernel
theorem dX5_setProduct_37 : decode cX5_setProduct 37 = .ok (.lconst 0, 1) := by decide +kernel
theorem dX5_setProduct_38 : decode cX5_setProduct 38 = .ok (.lstore 5, 2) := by decide +kernel
theorem dX5_setProduct_40 : decode cX5_setProduct 40 = .ok (.iconst 0, 1) := by decide +kernel
theorem dX5_setProduct_41 : decode cX5_setProduct 41 = .ok (.istore 7, 2) := by decide +kernel
theorem dX5_setProduct_43 : decode cX5_setProduct 43 = .ok (.iload 7, 2) := by decide +kernel
theorem dX5_setProduct_45 : decode cX5_setProduct 45 = .ok (.aload_n 2, 1) := by decide +kernel
theorem dX5_setProduct_46 : decode cX5_setProduct 46 = .ok (.getfield 17, 3) := by decide +kernel
theorem dX5_setProduct_49 : decode cX5_setProduct 49 = .ok (.if_icmp .gt 76, 3) := by decide +kernel
theorem dX5_setProduct_52 : decode cX5_setProduct 52 = .ok (.iload 4, 2) := by decide +kernel
theorem dX5_setProduct_54 : decode cX5_setProduct 54 = .ok (.iload 7, 2) := by decide +kernel
theorem dX5_setProduct_56 : decode cX5_setProduct 56 = .ok (.iadd, 1) := by decide +kernel
theorem dX5_setProduct_57 : decode cX5_setProduct 57 = .ok (.iload_n 3, 1) := by decide +kernel
theorem dX5_setProduct_58 : decode cX5_setProduct 58 = .ok (.if_icmp .ge 67, 3) := by decide +kernel
theorem dX5_setProduct_61 : decode cX5_setProduct 61 = .ok (.lload 5, 2) := by decide +kernel
theorem dX5_setProduct_63 : decode cX5_setProduct 63 = .ok (.aload_n 0, 1) := by decide +kernel
theorem dX5_setProduct_64 : decode cX5_setProduct 64 = .ok (.getfield 9, 3) := by decide +kernel
theorem dX5_setProduct_67 : decode cX5_setProduct 67 = .ok (.iload 4, 2) := by decide +kernel
theorem dX5_setProduct_69 : decode cX5_setProduct 69 = .ok (.iload 7, 2) := by decide +kernel
theorem dX5_setProduct_71 : decode cX5_setProduct 71 = .ok (.iadd, 1) := by decide +kernel
theorem dX5_setProduct_72 : decode cX5_setProduct 72 = .ok (.iaload, 1) := by decide +kernel
theorem dX5_setProduct_73 : decode cX5_setProduct 73 = .ok (.i2l, 1) := by decide +kernel
theorem dX5_setProduct_74 : decode cX5_setProduct 74 = .ok (.aload_n 1, 1) := by decide +kernel
theorem dX5_setProduct_75 : decode cX5_setProduct 75 = .ok (.getfield 9, 3) := by decide +kernel
theorem dX5_setProduct_78 : decode cX5_setProduct 78 = .ok (.iload 4, 2) := by decide +kernel
theorem dX5_setProduct_80 : decode cX5_setProduct 80 = .ok (.iaload, 1) := by decide +kernel
theorem dX5_setProduct_81 : decode cX5_setProduct 81 = .ok (.i2l, 1) := by decide +kernel
theorem dX5_setProduct_82 : decode cX5_setProduct 82 = .ok (.aload_n 2, 1) := by decide +kernel
theorem dX5_setProduct_83 : decode cX5_setProduct 83 = .ok (.getfield 9, 3) := by decide +kernel
theorem dX5_setProduct_86 : decode cX5_setProduct 86 = .ok (.iload 7, 2) := by decide +kernel
theorem dX5_setProduct_88 : decode cX5_setProduct 88 = .ok (.iaload, 1) := by decide +kernel
theorem dX5_setProduct_89 : decode cX5_setProduct 89 = .ok (.i2l, 1) := by decide +kernel
theorem dX5_setProduct_90 : decode cX5_setProduct 90 = .ok (.lmul, 1) := by decide +kernel
theorem dX5_setProduct_91 : decode cX5_setProduct 91 = .ok (.ladd, 1) := by decide +kernel
theorem dX5_setProduct_92 : decode cX5_setProduct 92 = .ok (.ladd, 1) := by decide +kernel
theorem dX5_setProduct_93 : decode cX5_setProduct 93 = .ok (.lstore 5, 2) := by decide +kernel
theorem dX5_setProduct_95 : decode cX5_setProduct 95 = .ok (.aload_n 0, 1) := by decide +kernel
theorem dX5_setProduct_96 : decode cX5_setProduct 96 = .ok (.getfield 9, 3) := by decide +kernel
theorem dX5_setProduct_99 : decode cX5_setProduct 99 = .ok (.iload 4, 2) := by decide +kernel
theorem dX5_setProduct_101 : decode cX5_setProduct 101 = .ok (.iload 7, 2) := by decide +kernel
theorem dX5_setProduct_103 : decode cX5_setProduct 103 = .ok (.iadd, 1) := by decide +kernel
theorem dX5_setProduct_104 : decode cX5_setProduct 104 = .ok (.lload 5, 2) := by decide +kernel
theorem dX5_setProduct_106 : decode cX5_setProduct 106 = .ok (.ldc2_w 28, 3) := by decide +kernel
theorem dX5_setProduct_109 : decode cX5_setProduct 109 = .ok (.land, 1) := by decide +kernel
theorem dX5_setProduct_110 : decode cX5_setProduct 110 = .ok (.l2i, 1) := by decide +kernel
theorem dX5_setProduct_111 : decode cX5_setProduct 111 = .ok (.iastore, 1) := by decide +kernel
theorem dX5_setProduct_112 : decode cX5_setProduct 112 = .ok (.lload 5, 2) := by decide +kernel
theorem dX5_setProduct_114 : decode cX5_setProduct 114 = .ok (.bipush 28, 2) := by decide +kernel
theorem dX5_setProduct_116 : decode cX5_setProduct 116 = .ok (.lushr, 1) := by decide +kernel
theorem dX5_setProduct_117 : decode cX5_setProduct 117 = .ok (.lstore 5, 2) := by decide +kernel
theorem dX5_setProduct_119 : decode cX5_setProduct 119 = .ok (.iinc 7 1, 3) := by decide +kernel
theorem dX5_setProduct_122 : decode cX5_setProduct 122 = .ok (.goto (-79), 3) := by decide +kernel
theorem dX5_setProduct_125 : decode cX5_setProduct 125 = .ok (.iinc 4 1, 3) := by decide +kernel
theorem dX5_setProduct_128 : decode cX5_setProduct 128 = .ok (.goto (-106), 3) := by decide +kernel
theorem dX5_setProduct_131 : decode cX5_setProduct 131 = .ok (.aload_n 0, 1) := by decide +kernel
theorem dX5_setProduct_132 : decode cX5_setProduct 132 = .ok (.aload_n 1, 1) := by decide +kernel
theorem dX5_setProduct_133 : decode cX5_setProduct 133 = .ok (.getfield 13, 3) := by decide +kernel
theorem dX5_setProduct_136 : decode cX5_setProduct 136 = .ok (.aload_n 2, 1) := by decide +kernel
theorem dX5_setProduct_137 : decode cX5_setProduct 137 = .ok (.getfield 13, 3) := by decide +kernel
theorem dX5_setProduct_140 : decode cX5_setProduct 140 = .ok (.if_icmp .eq 7, 3) := by decide +kernel
theorem dX5_setProduct_143 : decode cX5_setProduct 143 = .ok (.iconst 1, 1) := by decide +kernel
theorem dX5_setProduct_144 : decode cX5_setProduct 144 = .ok (.goto 4, 3) := by decide +kernel
theorem dX5_setProduct_147 : decode cX5_setProduct 147 = .ok (.iconst 0, 1) := by decide +kernel
theorem dX5_setProduct_148 : decode cX5_setProduct 148 = .ok (.putfield 13, 3) := by decide +kernel
theorem dX5_setProduct_151 : decode cX5_setProduct 151 = .ok (.aload_n 0, 1) := by decide +kernel
theorem dX5_setProduct_152 : decode cX5_setProduct 152 = .ok (.iload_n 3, 1) := by decide +kernel
theorem dX5_setProduct_153 : decode cX5_setProduct 153 = .ok (.invokevirtual 30, 3) := by decide +kernel
theorem dX5_setProduct_156 : decode cX5_setProduct 156 = .ok (.return_, 1) := by decide +kernel
theorem dX5_multiplySmall_0 : decode cX5_multiplySmall 0 = .ok (.bipush 18, 2) := by decide +kernel
theorem dX5_multiplySmall_2 : decode cX5_multiplySmall 2 = .ok (.aload_n 0, 1) := by decide +kernel
theorem dX5_multiplySmall_3 : decode cX5_multiplySmall 3 = .ok (.getfield 17, 3) := by decide +kernel
theorem dX5_multiplySmall_6 : decode cX5_multiplySmall 6 = .ok (.iconst 1, 1) := by decide +kernel
theorem dX5_multiplySmall_7 : decode cX5_multiplySmall 7 = .ok (.iadd, 1) := by decide +kernel
theorem dX5_multiplySmall_8 : decode cX5_multiplySmall 8 = .ok (.invokestatic 66, 3) := by decide +kernel
theorem dX5_multiplySmall_11 : decode cX5_multiplySmall 11 = .ok (.istore_n 3, 1) := by decide +kernel
theorem dX5_multiplySmall_12 : decode cX5_multiplySmall 12 = .ok (.iload_n 2, 1) := by decide +kernel
theorem dX5_multiplySmall_13 : decode cX5_multiplySmall 13 = .ok (.i2l, 1) := by decide +kernel
theorem dX5_multiplySmall_14 : decode cX5_multiplySmall 14 = .ok (.lstore 4, 2) := by decide +kernel
theorem dX5_multiplySmall_16 : decode cX5_multiplySmall 16 = .ok (.iconst 0, 1) := by decide +kernel
theorem dX5_multiplySmall_17 : decode cX5_multiplySmall 17 = .ok (.istore 6, 2) := by decide +kernel
theorem dX5_multiplySmall_19 : decode cX5_multiplySmall 19 = .ok (.iload 6, 2) := by decide +kernel
theorem dX5_multiplySmall_21 : decode cX5_multiplySmall 21 = .ok (.iload_n 3, 1) := by decide +kernel
theorem dX5_multiplySmall_22 : decode cX5_multiplySmall 22 = .ok (.if_icmp .ge 46, 3) := by decide +kernel
theorem dX5_multiplySmall_25 : decode cX5_multiplySmall 25 = .ok (.lload 4, 2) := by decide +kernel
theorem dX5_multiplySmall_27 : decode cX5_multiplySmall 27 = .ok (.aload_n 0, 1) := by decide +kernel
theorem dX5_multiplySmall_28 : decode cX5_multiplySmall 28 = .ok (.getfield 9, 3) := by decide +kernel
theorem dX5_multiplySmall_31 : decode cX5_multiplySmall 31 = .ok (.iload 6, 2) := by decide +kernel
theorem dX5_multiplySmall_33 : decode cX5_multiplySmall 33 = .ok (.iaload, 1) := by decide +kernel
theorem dX5_multiplySmall_34 : decode cX5_multiplySmall 34 = .ok (.i2l, 1) := by decide +kernel
theorem dX5_multiplySmall_35 : decode cX5_multiplySmall 35 = .ok (.iload_n 1, 1) := by decide +kernel
theorem dX5_multiplySmall_36 : decode cX5_multiplySmall 36 = .ok (.i2l, 1) := by decide +kernel
theorem dX5_multiplySmall_37 : decode cX5_multiplySmall 37 = .ok (.lmul, 1) := by decide +kernel
theorem dX5_multiplySmall_38 : decode cX5_multiplySmall 38 = .ok (.ladd, 1) := by decide +kernel
theorem dX5_multiplySmall_39 : decode cX5_multiplySmall 39 = .ok (.lstore 4, 2) := by decide +kernel
theorem dX5_multiplySmall_41 : decode cX5_multiplySmall 41 = .ok (.aload_n 0, 1) := by decide +kernel
theorem dX5_multiplySmall_42 : decode cX5_multiplySmall 42 = .ok (.getfield 9, 3) := by decide +kernel
theorem dX5_multiplySmall_45 : decode cX5_multiplySmall 45 = .ok (.iload 6, 2) := by decide +kernel
theorem dX5_multiplySmall_47 : decode cX5_multiplySmall 47 = .ok (.lload 4, 2) := by decide +kernel
theorem dX5_multiplySmall_49 : decode cX5_multiplySmall 49 = .ok (.ldc2_w 28, 3) := by decide +kernel
theorem dX5_multiplySmall_52 : decode cX5_multiplySmall 52 = .ok (.land, 1) := by decide +kernel
theorem dX5_multiplySmall_53 : decode cX5_multiplySmall 53 = .ok (.l2i, 1) := by decide +kernel
theorem dX5_multiplySmall_54 : decode cX5_multiplySmall 54 = .ok (.iastore, 1) := by decide +kernel
theorem dX5_multiplySmall_55 : decode cX5_multiplySmall 55 = .ok (.lload 4, 2) := by decide +kernel
theorem dX5_multiplySmall_57 : decode cX5_multiplySmall 57 = .ok (.bipush 28, 2) := by decide +kernel
theorem dX5_multiplySmall_59 : decode cX5_multiplySmall 59 = .ok (.lushr, 1) := by decide +kernel
theorem dX5_multiplySmall_60 : decode cX5_multiplySmall 60 = .ok (.lstore 4, 2) := by decide +kernel
theorem dX5_multiplySmall_62 : decode cX5_multiplySmall 62 = .ok (.iinc 6 1, 3) := by decide +kernel
theorem dX5_multiplySmall_65 : decode cX5_multiplySmall 65 = .ok (.goto (-46), 3) := by decide +kernel
theorem dX5_multiplySmall_68 : decode cX5_multiplySmall 68 = .ok (.aload_n 0, 1) := by decide +kernel
theorem dX5_multiplySmall_69 : decode cX5_multiplySmall 69 = .ok (.iload_n 3, 1) := by decide +kernel
theorem dX5_multiplySmall_70 : decode cX5_multiplySmall 70 = .ok (.invokevirtual 30, 3) := by decide +kernel
theorem dX5_multiplySmall_73 : decode cX5_multiplySmall 73 = .ok (.return_, 1) := by decide +kernel
theorem dX5_divideSmall_0 : decode cX5_divideSmall 0 = .ok (.iload_n 1, 1) := by decide +kernel
theorem dX5_divideSmall_1 : decode cX5_divideSmall 1 = .ok (.iconst 1, 1) := by decide +kernel
theorem dX5_divideSmall_2 : decode cX5_divideSmall 2 = .ok (.if_icmp .ge 5, 3) := by decide +kernel
theorem dX5_divideSmall_5 : decode cX5_divideSmall 5 = .ok (.iconst 0, 1) := by decide +kernel
theorem dX5_divideSmall_6 : decode cX5_divideSmall 6 = .ok (.ireturn, 1) := by decide +kernel
theorem dX5_divideSmall_7 : decode cX5_divideSmall 7 = .ok (.lconst 0, 1) := by decide +kernel
theorem dX5_divideSmall_8 : decode cX5_divideSmall 8 = .ok (.lstore_n 2, 1) := by decide +kernel
theorem dX5_divideSmall_9 : decode cX5_divideSmall 9 = .ok (.bipush 18, 2) := by decide +kernel
theorem dX5_divideSmall_11 : decode cX5_divideSmall 11 = .ok (.aload_n 0, 1) := by decide +kernel
theorem dX5_divideSmall_12 : decode cX5_divideSmall 12 = .ok (.getfield 17, 3) := by decide +kernel
theorem dX5_divideSmall_15 : decode cX5_divideSmall 15 = .ok (.invokestatic 66, 3) := by decide +kernel
theorem dX5_divideSmall_18 : decode cX5_divideSmall 18 = .ok (.iconst 1, 1) := by decide +kernel
theorem dX5_divideSmall_19 : decode cX5_divideSmall 19 = .ok (.isub, 1) := by decide +kernel
theorem dX5_divideSmall_20 : decode cX5_divideSmall 20 = .ok (.istore 4, 2) := by decide +kernel
theorem dX5_divideSmall_22 : decode cX5_divideSmall 22 = .ok (.iload 4, 2) := by decide +kernel
theorem dX5_divideSmall_24 : decode cX5_divideSmall 24 = .ok (.ifCond .lt 43, 3) := by decide +kernel
theorem dX5_divideSmall_27 : decode cX5_divideSmall 27 = .ok (.lload_n 2, 1) := by decide +kernel
theorem dX5_divideSmall_28 : decode cX5_divideSmall 28 = .ok (.bipush 28, 2) := by decide +kernel
theorem dX5_divideSmall_30 : decode cX5_divideSmall 30 = .ok (.lshl, 1) := by decide +kernel
theorem dX5_divideSmall_31 : decode cX5_divideSmall 31 = .ok (.aload_n 0, 1) := by decide +kernel
theorem dX5_divideSmall_32 : decode cX5_divideSmall 32 = .ok (.getfield 9, 3) := by decide +kernel
theorem dX5_divideSmall_35 : decode cX5_divideSmall 35 = .ok (.iload 4, 2) := by decide +kernel
theorem dX5_divideSmall_37 : decode cX5_divideSmall 37 = .ok (.iaload, 1) := by decide +kernel
theorem dX5_divideSmall_38 : decode cX5_divideSmall 38 = .ok (.i2l, 1) := by decide +kernel
theorem dX5_divideSmall_39 : decode cX5_divideSmall 39 = .ok (.ladd, 1) := by decide +kernel
theorem dX5_divideSmall_40 : decode cX5_divideSmall 40 = .ok (.lstore 5, 2) := by decide +kernel
theorem dX5_divideSmall_42 : decode cX5_divideSmall 42 = .ok (.aload_n 0, 1) := by decide +kernel
theorem dX5_divideSmall_43 : decode cX5_divideSmall 43 = .ok (.getfield 9, 3) := by decide +kernel
theorem dX5_divideSmall_46 : decode cX5_divideSmall 46 = .ok (.iload 4, 2) := by decide +kernel
theorem dX5_divideSmall_48 : decode cX5_divideSmall 48 = .ok (.lload 5, 2) := by decide +kernel
theorem dX5_divideSmall_50 : decode cX5_divideSmall 50 = .ok (.iload_n 1, 1) := by decide +kernel
theorem dX5_divideSmall_51 : decode cX5_divideSmall 51 = .ok (.i2l, 1) := by decide +kernel
theorem dX5_divideSmall_52 : decode cX5_divideSmall 52 = .ok (.ldiv, 1) := by decide +kernel
theorem dX5_divideSmall_53 : decode cX5_divideSmall 53 = .ok (.l2i, 1) := by decide +kernel
theorem dX5_divideSmall_54 : decode cX5_divideSmall 54 = .ok (.iastore, 1) := by decide +kernel
theorem dX5_divideSmall_55 : decode cX5_divideSmall 55 = .ok (.lload 5, 2) := by decide +kernel
theorem dX5_divideSmall_57 : decode cX5_divideSmall 57 = .ok (.iload_n 1, 1) := by decide +kernel
theorem dX5_divideSmall_58 : decode cX5_divideSmall 58 = .ok (.i2l, 1) := by decide +kernel
theorem dX5_divideSmall_59 : decode cX5_divideSmall 59 = .ok (.lrem, 1) := by decide +kernel
theorem dX5_divideSmall_60 : decode cX5_divideSmall 60 = .ok (.lstore_n 2, 1) := by decide +kernel
theorem dX5_divideSmall_61 : decode cX5_divideSmall 61 = .ok (.iinc 4 (-1), 3) := by decide +kernel
theorem dX5_divideSmall_64 : decode cX5_divideSmall 64 = .ok (.goto (-42), 3) := by decide +kernel
theorem dX5_divideSmall_67 : decode cX5_divideSmall 67 = .ok (.aload_n 0, 1) := by decide +kernel
theorem dX5_divideSmall_68 : decode cX5_divideSmall 68 = .ok (.aload_n 0, 1) := by decide +kernel
theorem dX5_divideSmall_69 : decode cX5_divideSmall 69 = .ok (.getfield 17, 3) := by decide +kernel
theorem dX5_divideSmall_72 : decode cX5_divideSmall 72 = .ok (.invokevirtual 30, 3) := by decide +kernel
theorem dX5_divideSmall_75 : decode cX5_divideSmall 75 = .ok (.lload_n 2, 1) := by decide +kernel
theorem dX5_divideSmall_76 : decode cX5_divideSmall 76 = .ok (.l2i, 1) := by decide +kernel
theorem dX5_divideSmall_77 : decode cX5_divideSmall 77 = .ok (.ireturn, 1) := by decide +kernel
theorem dX5_shiftUp_0 : decode cX5_shiftUp 0 = .ok (.iconst 0, 1) := by decide +kernel
theorem dX5_shiftUp_1 : decode cX5_shiftUp 1 = .ok (.iload_n 1, 1) := by decide +kernel
theorem dX5_shiftUp_2 : decode cX5_shiftUp 2 = .ok (.invokestatic 60, 3) := by decide +kernel
theorem dX5_shiftUp_5 : decode cX5_shiftUp 5 = .ok (.bipush 28, 2) := by decide +kernel
theorem dX5_shiftUp_7 : decode cX5_shiftUp 7 = .ok (.idiv, 1) := by decide +kernel
theorem dX5_shiftUp_8 : decode cX5_shiftUp 8 = .ok (.istore_n 2, 1) := by decide +kernel
theorem dX5_shiftUp_9 : decode cX5_shiftUp 9 = .ok (.iconst 0, 1) := by decide +kernel
theorem dX5_shiftUp_10 : decode cX5_shiftUp 10 = .ok (.iload_n 1, 1) := by decide +kernel
theorem dX5_shiftUp_11 : decode cX5_shiftUp 11 = .ok (.invokestatic 60, 3) := by decide +kernel
theorem dX5_shiftUp_14 : decode cX5_shiftUp 14 = .ok (.bipush 28, 2) := by decide +kernel
theorem dX5_shiftUp_16 : decode cX5_shiftUp 16 = .ok (.irem, 1) := by decide +kernel
theorem dX5_shiftUp_17 : decode cX5_shiftUp 17 = .ok (.istore_n 3, 1) := by decide +kernel
theorem dX5_shiftUp_18 : decode cX5_shiftUp 18 = .ok (.bipush 18, 2) := by decide +kernel
theorem dX5_shiftUp_20 : decode cX5_shiftUp 20 = .ok (.aload_n 0, 1) := by decide +kernel
theorem dX5_shiftUp_21 : decode cX5_shiftUp 21 = .ok (.getfield 17, 3) := by decide +kernel
theorem dX5_shiftUp_24 : decode cX5_shiftUp 24 = .ok (.iload_n 2, 1) := by decide +kernel
theorem dX5_shiftUp_25 : decode cX5_shiftUp 25 = .ok (.iadd, 1) := by decide +kernel
theorem dX5_shiftUp_26 : decode cX5_shiftUp 26 = .ok (.iconst 1, 1) := by decide +kernel
theorem dX5_shiftUp_27 : decode cX5_shiftUp 27 = .ok (.iadd, 1) := by decide +kernel
theorem dX5_shiftUp_28 : decode cX5_shiftUp 28 = .ok (.invokestatic 66, 3) := by decide +kernel
theorem dX5_shiftUp_31 : decode cX5_shiftUp 31 = .ok (.istore 4, 2) := by decide +kernel
theorem dX5_shiftUp_33 : decode cX5_shiftUp 33 = .ok (.iload 4, 2) := by decide +kernel
theorem dX5_shiftUp_35 : decode cX5_shiftUp 35 = .ok (.iconst 1, 1) := by decide +kernel
theorem dX5_shiftUp_36 : decode cX5_shiftUp 36 = .ok (.isub, 1) := by decide +kernel
theorem dX5_shiftUp_37 : decode cX5_shiftUp 37 = .ok (.istore 5, 2) := by decide +kernel
theorem dX5_shiftUp_39 : decode cX5_shiftUp 39 = .ok (.iload 5, 2) := by decide +kernel
theorem dX5_shiftUp_41 : decode cX5_shiftUp 41 = .ok (.ifCond .lt 76, 3) := by decide +kernel
theorem dX5_shiftUp_44 : decode cX5_shiftUp 44 = .ok (.iload 5, 2) := by decide +kernel
theorem dX5_shiftUp_46 : decode cX5_shiftUp 46 = .ok (.iload_n 2, 1) := by decide +kernel
theorem dX5_shiftUp_47 : decode cX5_shiftUp 47 = .ok (.isub, 1) := by decide +kernel
theorem dX5_shiftUp_48 : decode cX5_shiftUp 48 = .ok (.istore 6, 2) := by decide +kernel
theorem dX5_shiftUp_50 : decode cX5_shiftUp 50 = .ok (.iload 6, 2) := by decide +kernel
theorem dX5_shiftUp_52 : decode cX5_shiftUp 52 = .ok (.ifCond .lt 15, 3) := by decide +kernel
theorem dX5_shiftUp_55 : decode cX5_shiftUp 55 = .ok (.aload_n 0, 1) := by decide +kernel
theorem dX5_shiftUp_56 : decode cX5_shiftUp 56 = .ok (.getfield 9, 3) := by decide +kernel
theorem dX5_shiftUp_59 : decode cX5_shiftUp 59 = .ok (.iload 6, 2) := by decide +kernel
theorem dX5_shiftUp_61 : decode cX5_shiftUp 61 = .ok (.iaload, 1) := by decide +kernel
theorem dX5_shiftUp_62 : decode cX5_shiftUp 62 = .ok (.iload_n 3, 1) := by decide +kernel
theorem dX5_shiftUp_63 : decode cX5_shiftUp 63 = .ok (.ishl, 1) := by decide +kernel
theorem dX5_shiftUp_64 : decode cX5_shiftUp 64 = .ok (.goto 4, 3) := by decide +kernel
theorem dX5_shiftUp_67 : decode cX5_shiftUp 67 = .ok (.iconst 0, 1) := by decide +kernel
theorem dX5_shiftUp_68 : decode cX5_shiftUp 68 = .ok (.istore 7, 2) := by decide +kernel
theorem dX5_shiftUp_70 : decode cX5_shiftUp 70 = .ok (.iload 6, 2) := by decide +kernel
theorem dX5_shiftUp_72 : decode cX5_shiftUp 72 = .ok (.iconst 1, 1) := by decide +kernel
theorem dX5_shiftUp_73 : decode cX5_shiftUp 73 = .ok (.if_icmp .lt 20, 3) := by decide +kernel
theorem dX5_shiftUp_76 : decode cX5_shiftUp 76 = .ok (.aload_n 0, 1) := by decide +kernel
theorem dX5_shiftUp_77 : decode cX5_shiftUp 77 = .ok (.getfield 9, 3) := by decide +kernel
theorem dX5_shiftUp_80 : decode cX5_shiftUp 80 = .ok (.iload 6, 2) := by decide +kernel
theorem dX5_shiftUp_82 : decode cX5_shiftUp 82 = .ok (.iconst 1, 1) := by decide +kernel
theorem dX5_shiftUp_83 : decode cX5_shiftUp 83 = .ok (.isub, 1) := by decide +kernel
theorem dX5_shiftUp_84 : decode cX5_shiftUp 84 = .ok (.iaload, 1) := by decide +kernel
theorem dX5_shiftUp_85 : decode cX5_shiftUp 85 = .ok (.bipush 28, 2) := by decide +kernel
theorem dX5_shiftUp_87 : decode cX5_shiftUp 87 = .ok (.iload_n 3, 1) := by decide +kernel
theorem dX5_shiftUp_88 : decode cX5_shiftUp 88 = .ok (.isub, 1) := by decide +kernel
theorem dX5_shiftUp_89 : decode cX5_shiftUp 89 = .ok (.iushr, 1) := by decide +kernel
theorem dX5_shiftUp_90 : decode cX5_shiftUp 90 = .ok (.goto 4, 3) := by decide +kernel
theorem dX5_shiftUp_93 : decode cX5_shiftUp 93 = .ok (.iconst 0, 1) := by decide +kernel
theorem dX5_shiftUp_94 : decode cX5_shiftUp 94 = .ok (.istore 8, 2) := by decide +kernel
theorem dX5_shiftUp_96 : decode cX5_shiftUp 96 = .ok (.aload_n 0, 1) := by decide +kernel
theorem dX5_shiftUp_97 : decode cX5_shiftUp 97 = .ok (.getfield 9, 3) := by decide +kernel
theorem dX5_shiftUp_100 : decode cX5_shiftUp 100 = .ok (.iload 5, 2) := by decide +kernel
theorem dX5_shiftUp_102 : decode cX5_shiftUp 102 = .ok (.iload 7, 2) := by decide +kernel
theorem dX5_shiftUp_104 : decode cX5_shiftUp 104 = .ok (.ldc 69, 2) := by decide +kernel
theorem dX5_shiftUp_106 : decode cX5_shiftUp 106 = .ok (.iand, 1) := by decide +kernel
theorem dX5_shiftUp_107 : decode cX5_shiftUp 107 = .ok (.iload 8, 2) := by decide +kernel
theorem dX5_shiftUp_109 : decode cX5_shiftUp 109 = .ok (.ior, 1) := by decide +kernel
theorem dX5_shiftUp_110 : decode cX5_shiftUp 110 = .ok (.iastore, 1) := by decide +kernel
theorem dX5_shiftUp_111 : decode cX5_shiftUp 111 = .ok (.iinc 5 (-1), 3) := by decide +kernel
theorem dX5_shiftUp_114 : decode cX5_shiftUp 114 = .ok (.goto (-75), 3) := by decide +kernel
theorem dX5_shiftUp_117 : decode cX5_shiftUp 117 = .ok (.aload_n 0, 1) := by decide +kernel
theorem dX5_shiftUp_118 : decode cX5_shiftUp 118 = .ok (.iload 4, 2) := by decide +kernel
theorem dX5_shiftUp_120 : decode cX5_shiftUp 120 = .ok (.invokevirtual 30, 3) := by decide +kernel
theorem dX5_shiftUp_123 : decode cX5_shiftUp 123 = .ok (.return_, 1) := by decide +kernel
theorem dX5_compareSize_0 : decode cX5_compareSize 0 = .ok (.bipush 18, 2) := by decide +kernel
theorem dX5_compareSize_2 : decode cX5_compareSize 2 = .ok (.aload_n 0, 1) := by decide +kernel
theorem dX5_compareSize_3 : decode cX5_compareSize 3 = .ok (.getfield 17, 3) := by decide +kernel
theorem dX5_compareSize_6 : decode cX5_compareSize 6 = .ok (.aload_n 1, 1) := by decide +kernel
theorem dX5_compareSize_7 : decode cX5_compareSize 7 = .ok (.getfield 17, 3) := by decide +kernel
theorem dX5_compareSize_10 : decode cX5_compareSize 10 = .ok (.invokestatic 60, 3) := by decide +kernel
theorem dX5_compareSize_13 : decode cX5_compareSize 13 = .ok (.invokestatic 66, 3) := by decide +kernel
theorem dX5_compareSize_16 : decode cX5_compareSize 16 = .ok (.iconst 1, 1) := by decide +kernel
theorem dX5_compareSize_17 : decode cX5_compareSize 17 = .ok (.isub, 1) := by decide +kernel
theorem dX5_compareSize_18 : decode cX5_compareSize 18 = .ok (.istore_n 2, 1) := by decide +kernel
theorem dX5_compareSize_19 : decode cX5_compareSize 19 = .ok (.iload_n 2, 1) := by decide +kernel
theorem dX5_compareSize_20 : decode cX5_compareSize 20 = .ok (.ifCond .lt 45, 3) := by decide +kernel
theorem dX5_compareSize_23 : decode cX5_compareSize 23 = .ok (.aload_n 0, 1) := by decide +kernel
theorem dX5_compareSize_24 : decode cX5_compareSize 24 = .ok (.getfield 9, 3) := by decide +kernel
theorem dX5_compareSize_27 : decode cX5_compareSize 27 = .ok (.iload_n 2, 1) := by decide +kernel
theorem dX5_compareSize_28 : decode cX5_compareSize 28 = .ok (.iaload, 1) := by decide +kernel
theorem dX5_compareSize_29 : decode cX5_compareSize 29 = .ok (.aload_n 1, 1) := by decide +kernel
theorem dX5_compareSize_30 : decode cX5_compareSize 30 = .ok (.getfield 9, 3) := by decide +kernel
theorem dX5_compareSize_33 : decode cX5_compareSize 33 = .ok (.iload_n 2, 1) := by decide +kernel
theorem dX5_compareSize_34 : decode cX5_compareSize 34 = .ok (.iaload, 1) := by decide +kernel
theorem dX5_compareSize_35 : decode cX5_compareSize 35 = .ok (.if_icmp .eq 24, 3) := by decide +kernel
theorem dX5_compareSize_38 : decode cX5_compareSize 38 = .ok (.aload_n 0, 1) := by decide +kernel
theorem dX5_compareSize_39 : decode cX5_compareSize 39 = .ok (.getfield 9, 3) := by decide +kernel
theorem dX5_compareSize_42 : decode cX5_compareSize 42 = .ok (.iload_n 2, 1) := by decide +kernel
theorem dX5_compareSize_43 : decode cX5_compareSize 43 = .ok (.iaload, 1) := by decide +kernel
theorem dX5_compareSize_44 : decode cX5_compareSize 44 = .ok (.aload_n 1, 1) := by decide +kernel
theorem dX5_compareSize_45 : decode cX5_compareSize 45 = .ok (.getfield 9, 3) := by decide +kernel
theorem dX5_compareSize_48 : decode cX5_compareSize 48 = .ok (.iload_n 2, 1) := by decide +kernel
theorem dX5_compareSize_49 : decode cX5_compareSize 49 = .ok (.iaload, 1) := by decide +kernel
theorem dX5_compareSize_50 : decode cX5_compareSize 50 = .ok (.if_icmp .le 7, 3) := by decide +kernel
theorem dX5_compareSize_53 : decode cX5_compareSize 53 = .ok (.iconst 1, 1) := by decide +kernel
theorem dX5_compareSize_54 : decode cX5_compareSize 54 = .ok (.goto 4, 3) := by decide +kernel
theorem dX5_compareSize_57 : decode cX5_compareSize 57 = .ok (.iconst (-1), 1) := by decide +kernel
theorem dX5_compareSize_58 : decode cX5_compareSize 58 = .ok (.ireturn, 1) := by decide +kernel
theorem dX5_compareSize_59 : decode cX5_compareSize 59 = .ok (.iinc 2 (-1), 3) := by decide +kernel
theorem dX5_compareSize_62 : decode cX5_compareSize 62 = .ok (.goto (-43), 3) := by decide +kernel
theorem dX5_compareSize_65 : decode cX5_compareSize 65 = .ok (.iconst 0, 1) := by decide +kernel
theorem dX5_compareSize_66 : decode cX5_compareSize 66 = .ok (.ireturn, 1) := by decide +kernel
theorem dX5_compareValue_0 : decode cX5_compareValue 0 = .ok (.aload_n 0, 1) := by decide +kernel
theorem dX5_compareValue_1 : decode cX5_compareValue 1 = .ok (.getfield 13, 3) := by decide +kernel
theorem dX5_compareValue_4 : decode cX5_compareValue 4 = .ok (.aload_n 1, 1) := by decide +kernel
theorem dX5_compareValue_5 : decode cX5_compareValue 5 = .ok (.getfield 13, 3) := by decide +kernel
theorem dX5_compareValue_8 : decode cX5_compareValue 8 = .ok (.if_icmp .eq 16, 3) := by decide +kernel
theorem dX5_compareValue_11 : decode cX5_compareValue 11 = .ok (.aload_n 0, 1) := by decide +kernel
theorem dX5_compareValue_12 : decode cX5_compareValue 12 = .ok (.getfield 13, 3) := by decide +kernel
theorem dX5_compareValue_15 : decode cX5_compareValue 15 = .ok (.ifCond .eq 7, 3) := by decide +kernel
theorem dX5_compareValue_18 : decode cX5_compareValue 18 = .ok (.iconst (-1), 1) := by decide +kernel
theorem dX5_compareValue_19 : decode cX5_compareValue 19 = .ok (.goto 4, 3) := by decide +kernel
theorem dX5_compareValue_22 : decode cX5_compareValue 22 = .ok (.iconst 1, 1) := by decide +kernel
theorem dX5_compareValue_23 : decode cX5_compareValue 23 = .ok (.ireturn, 1) := by decide +kernel
theorem dX5_compareValue_24 : decode cX5_compareValue 24 = .ok (.aload_n 0, 1) := by decide +kernel
theorem dX5_compareValue_25 : decode cX5_compareValue 25 = .ok (.getfield 13, 3) := by decide +kernel
theorem dX5_compareValue_28 : decode cX5_compareValue 28 = .ok (.ifCond .eq 12, 3) := by decide +kernel
theorem dX5_compareValue_31 : decode cX5_compareValue 31 = .ok (.aload_n 0, 1) := by decide +kernel
theorem dX5_compareValue_32 : decode cX5_compareValue 32 = .ok (.aload_n 1, 1) := by decide +kernel
theorem dX5_compareValue_33 : decode cX5_compareValue 33 = .ok (.invokevirtual 50, 3) := by decide +kernel
theorem dX5_compareValue_36 : decode cX5_compareValue 36 = .ok (.ineg, 1) := by decide +kernel
theorem dX5_compareValue_37 : decode cX5_compareValue 37 = .ok (.goto 8, 3) := by decide +kernel
theorem dX5_compareValue_40 : decode cX5_compareValue 40 = .ok (.aload_n 0, 1) := by decide +kernel
theorem dX5_compareValue_41 : decode cX5_compareValue 41 = .ok (.aload_n 1, 1) := by decide +kernel
theorem dX5_compareValue_42 : decode cX5_compareValue 42 = .ok (.invokevirtual 50, 3) := by decide +kernel
theorem dX5_compareValue_45 : decode cX5_compareValue 45 = .ok (.ireturn, 1) := by decide +kernel
theorem dX5_bits_0 : decode cX5_bits 0 = .ok (.aload_n 0, 1) := by decide +kernel
theorem dX5_bits_1 : decode cX5_bits 1 = .ok (.getfield 17, 3) := by decide +kernel
theorem dX5_bits_4 : decode cX5_bits 4 = .ok (.iconst 1, 1) := by decide +kernel
theorem dX5_bits_5 : decode cX5_bits 5 = .ok (.if_icmp .lt 12, 3) := by decide +kernel
theorem dX5_bits_8 : decode cX5_bits 8 = .ok (.aload_n 0, 1) := by decide +kernel
theorem dX5_bits_9 : decode cX5_bits 9 = .ok (.getfield 17, 3) := by decide +kernel
theorem dX5_bits_12 : decode cX5_bits 12 = .ok (.bipush 18, 2) := by decide +kernel
theorem dX5_bits_14 : decode cX5_bits 14 = .ok (.if_icmp .le 5, 3) := by decide +kernel
theorem dX5_bits_17 : decode cX5_bits 17 = .ok (.iconst 0, 1) := by decide +kernel
theorem dX5_bits_18 : decode cX5_bits 18 = .ok (.ireturn, 1) := by decide +kernel
theorem dX5_bits_19 : decode cX5_bits 19 = .ok (.bipush 32, 2) := by decide +kernel
theorem dX5_bits_21 : decode cX5_bits 21 = .ok (.aload_n 0, 1) := by decide +kernel
theorem dX5_bits_22 : decode cX5_bits 22 = .ok (.getfield 9, 3) := by decide +kernel
theorem dX5_bits_25 : decode cX5_bits 25 = .ok (.aload_n 0, 1) := by decide +kernel
theorem dX5_bits_26 : decode cX5_bits 26 = .ok (.getfield 17, 3) := by decide +kernel
theorem dX5_bits_29 : decode cX5_bits 29 = .ok (.iconst 1, 1) := by decide +kernel
theorem dX5_bits_30 : decode cX5_bits 30 = .ok (.isub, 1) := by decide +kernel
theorem dX5_bits_31 : decode cX5_bits 31 = .ok (.iaload, 1) := by decide +kernel
theorem dX5_bits_32 : decode cX5_bits 32 = .ok (.invokestatic 70, 3) := by decide +kernel
theorem dX5_bits_35 : decode cX5_bits 35 = .ok (.isub, 1) := by decide +kernel
theorem dX5_bits_36 : decode cX5_bits 36 = .ok (.istore_n 1, 1) := by decide +kernel
theorem dX5_bits_37 : decode cX5_bits 37 = .ok (.aload_n 0, 1) := by decide +kernel
theorem dX5_bits_38 : decode cX5_bits 38 = .ok (.getfield 17, 3) := by decide +kernel
theorem dX5_bits_41 : decode cX5_bits 41 = .ok (.iconst 1, 1) := by decide +kernel
theorem dX5_bits_42 : decode cX5_bits 42 = .ok (.isub, 1) := by decide +kernel
theorem dX5_bits_43 : decode cX5_bits 43 = .ok (.bipush 28, 2) := by decide +kernel
theorem dX5_bits_45 : decode cX5_bits 45 = .ok (.imul, 1) := by decide +kernel
theorem dX5_bits_46 : decode cX5_bits 46 = .ok (.iload_n 1, 1) := by decide +kernel
theorem dX5_bits_47 : decode cX5_bits 47 = .ok (.iadd, 1) := by decide +kernel
theorem dX5_bits_48 : decode cX5_bits 48 = .ok (.ireturn, 1) := by decide +kernel
theorem dX5_ones_0 : decode cX5_ones 0 = .ok (.iconst 0, 1) := by decide +kernel
theorem dX5_ones_1 : decode cX5_ones 1 = .ok (.istore_n 1, 1) := by decide +kernel
theorem dX5_ones_2 : decode cX5_ones 2 = .ok (.iconst 0, 1) := by decide +kernel
theorem dX5_ones_3 : decode cX5_ones 3 = .ok (.istore_n 2, 1) := by decide +kernel
theorem dX5_ones_4 : decode cX5_ones 4 = .ok (.iload_n 2, 1) := by decide +kernel
theorem dX5_ones_5 : decode cX5_ones 5 = .ok (.bipush 18, 2) := by decide +kernel
theorem dX5_ones_7 : decode cX5_ones 7 = .ok (.if_icmp .ge 21, 3) := by decide +kernel
theorem dX5_ones_10 : decode cX5_ones 10 = .ok (.iload_n 1, 1) := by decide +kernel
theorem dX5_ones_11 : decode cX5_ones 11 = .ok (.aload_n 0, 1) := by decide +kernel
theorem dX5_ones_12 : decode cX5_ones 12 = .ok (.getfield 9, 3) := by decide +kernel
theorem dX5_ones_15 : decode cX5_ones 15 = .ok (.iload_n 2, 1) := by decide +kernel
theorem dX5_ones_16 : decode cX5_ones 16 = .ok (.iaload, 1) := by decide +kernel
theorem dX5_ones_17 : decode cX5_ones 17 = .ok (.invokestatic 76, 3) := by decide +kernel
theorem dX5_ones_20 : decode cX5_ones 20 = .ok (.iadd, 1) := by decide +kernel
theorem dX5_ones_21 : decode cX5_ones 21 = .ok (.istore_n 1, 1) := by decide +kernel
theorem dX5_ones_22 : decode cX5_ones 22 = .ok (.iinc 2 1, 3) := by decide +kernel
theorem dX5_ones_25 : decode cX5_ones 25 = .ok (.goto (-21), 3) := by decide +kernel
theorem dX5_ones_28 : decode cX5_ones 28 = .ok (.iload_n 1, 1) := by decide +kernel
theorem dX5_ones_29 : decode cX5_ones 29 = .ok (.ireturn, 1) := by decide +kernel
theorem dX5_zerosBehind_0 : decode cX5_zerosBehind 0 = .ok (.iconst 0, 1) := by decide +kernel
theorem dX5_zerosBehind_1 : decode cX5_zerosBehind 1 = .ok (.istore_n 1, 1) := by decide +kernel
theorem dX5_zerosBehind_2 : decode cX5_zerosBehind 2 = .ok (.iload_n 1, 1) := by decide +kernel
theorem dX5_zerosBehind_3 : decode cX5_zerosBehind 3 = .ok (.bipush 18, 2) := by decide +kernel
theorem dX5_zerosBehind_5 : decode cX5_zerosBehind 5 = .ok (.if_icmp .ge 33, 3) := by decide +kernel
theorem dX5_zerosBehind_8 : decode cX5_zerosBehind 8 = .ok (.aload_n 0, 1) := by decide +kernel
theorem dX5_zerosBehind_9 : decode cX5_zerosBehind 9 = .ok (.getfield 9, 3) := by decide +kernel
theorem dX5_zerosBehind_12 : decode cX5_zerosBehind 12 = .ok (.iload_n 1, 1) := by decide +kernel
theorem dX5_zerosBehind_13 : decode cX5_zerosBehind 13 = .ok (.iaload, 1) := by decide +kernel
theorem dX5_zerosBehind_14 : decode cX5_zerosBehind 14 = .ok (.ifCond .eq 18, 3) := by decide +kernel
theorem dX5_zerosBehind_17 : decode cX5_zerosBehind 17 = .ok (.iload_n 1, 1) := by decide +kernel
theorem dX5_zerosBehind_18 : decode cX5_zerosBehind 18 = .ok (.bipush 28, 2) := by decide +kernel
theorem dX5_zerosBehind_20 : decode cX5_zerosBehind 20 = .ok (.imul, 1) := by decide +kernel
theorem dX5_zerosBehind_21 : decode cX5_zerosBehind 21 = .ok (.aload_n 0, 1) := by decide +kernel
theorem dX5_zerosBehind_22 : decode cX5_zerosBehind 22 = .ok (.getfield 9, 3) := by decide +kernel
theorem dX5_zerosBehind_25 : decode cX5_zerosBehind 25 = .ok (.iload_n 1, 1) := by decide +kernel
theorem dX5_zerosBehind_26 : decode cX5_zerosBehind 26 = .ok (.iaload, 1) := by decide +kernel
theorem dX5_zerosBehind_27 : decode cX5_zerosBehind 27 = .ok (.invokestatic 79, 3) := by decide +kernel
theorem dX5_zerosBehind_30 : decode cX5_zerosBehind 30 = .ok (.iadd, 1) := by decide +kernel
theorem dX5_zerosBehind_31 : decode cX5_zerosBehind 31 = .ok (.ireturn, 1) := by decide +kernel
theorem dX5_zerosBehind_32 : decode cX5_zerosBehind 32 = .ok (.iinc 1 1, 3) := by decide +kernel
theorem dX5_zerosBehind_35 : decode cX5_zerosBehind 35 = .ok (.goto (-33), 3) := by decide +kernel
theorem dX5_zerosBehind_38 : decode cX5_zerosBehind 38 = .ok (.iconst (-1), 1) := by decide +kernel
theorem dX5_zerosBehind_39 : decode cX5_zerosBehind 39 = .ok (.ireturn, 1) := by decide +kernel
theorem dX5_hasBit_0 : decode cX5_hasBit 0 = .ok (.iload_n 1, 1) := by decide +kernel
theorem dX5_hasBit_1 : decode cX5_hasBit 1 = .ok (.ifCond .ge 8, 3) := by decide +kernel
theorem dX5_hasBit_4 : decode cX5_hasBit 4 = .ok (.bipush 18, 2) := by decide +kernel
theorem dX5_hasBit_6 : decode cX5_hasBit 6 = .ok (.goto 7, 3) := by decide +kernel
theorem dX5_hasBit_9 : decode cX5_hasBit 9 = .ok (.iload_n 1, 1) := by decide +kernel
theorem dX5_hasBit_10 : decode cX5_hasBit 10 = .ok (.bipush 28, 2) := by decide +kernel
theorem dX5_hasBit_12 : decode cX5_hasBit 12 = .ok (.idiv, 1) := by decide +kernel
theorem dX5_hasBit_13 : decode cX5_hasBit 13 = .ok (.istore_n 2, 1) := by decide +kernel
theorem dX5_hasBit_14 : decode cX5_hasBit 14 = .ok (.iload_n 2, 1) := by decide +kernel
theorem dX5_hasBit_15 : decode cX5_hasBit 15 = .ok (.bipush 18, 2) := by decide +kernel
theorem dX5_hasBit_17 : decode cX5_hasBit 17 = .ok (.if_icmp .ge 24, 3) := by decide +kernel
theorem dX5_hasBit_20 : decode cX5_hasBit 20 = .ok (.aload_n 0, 1) := by decide +kernel
theorem dX5_hasBit_21 : decode cX5_hasBit 21 = .ok (.getfield 9, 3) := by decide +kernel
theorem dX5_hasBit_24 : decode cX5_hasBit 24 = .ok (.iload_n 2, 1) := by decide +kernel
theorem dX5_hasBit_25 : decode cX5_hasBit 25 = .ok (.iaload, 1) := by decide +kernel
theorem dX5_hasBit_26 : decode cX5_hasBit 26 = .ok (.iload_n 1, 1) := by decide +kernel
theorem dX5_hasBit_27 : decode cX5_hasBit 27 = .ok (.bipush 28, 2) := by decide +kernel
theorem dX5_hasBit_29 : decode cX5_hasBit 29 = .ok (.irem, 1) := by decide +kernel
theorem dX5_hasBit_30 : decode cX5_hasBit 30 = .ok (.iushr, 1) := by decide +kernel
theorem dX5_hasBit_31 : decode cX5_hasBit 31 = .ok (.iconst 1, 1) := by decide +kernel
theorem dX5_hasBit_32 : decode cX5_hasBit 32 = .ok (.iand, 1) := by decide +kernel
theorem dX5_hasBit_33 : decode cX5_hasBit 33 = .ok (.iconst 1, 1) := by decide +kernel
theorem dX5_hasBit_34 : decode cX5_hasBit 34 = .ok (.if_icmp .ne 7, 3) := by decide +kernel
theorem dX5_hasBit_37 : decode cX5_hasBit 37 = .ok (.iconst 1, 1) := by decide +kernel
theorem dX5_hasBit_38 : decode cX5_hasBit 38 = .ok (.goto 4, 3) := by decide +kernel
theorem dX5_hasBit_41 : decode cX5_hasBit 41 = .ok (.iconst 0, 1) := by decide +kernel
theorem dX5_hasBit_42 : decode cX5_hasBit 42 = .ok (.ireturn, 1) := by decide +kernel
theorem dX5_lowBits_0 : decode cX5_lowBits 0 = .ok (.aload_n 0, 1) := by decide +kernel
theorem dX5_lowBits_1 : decode cX5_lowBits 1 = .ok (.getfield 9, 3) := by decide +kernel
theorem dX5_lowBits_4 : decode cX5_lowBits 4 = .ok (.iconst 0, 1) := by decide +kernel
theorem dX5_lowBits_5 : decode cX5_lowBits 5 = .ok (.iaload, 1) := by decide +kernel
theorem dX5_lowBits_6 : decode cX5_lowBits 6 = .ok (.i2l, 1) := by decide +kernel
theorem dX5_lowBits_7 : decode cX5_lowBits 7 = .ok (.aload_n 0, 1) := by decide +kernel
theorem dX5_lowBits_8 : decode cX5_lowBits 8 = .ok (.getfield 9, 3) := by decide +kernel
theorem dX5_lowBits_11 : decode cX5_lowBits 11 = .ok (.iconst 1, 1) := by decide +kernel
theorem dX5_lowBits_12 : decode cX5_lowBits 12 = .ok (.iaload, 1) := by decide +kernel
theorem dX5_lowBits_13 : decode cX5_lowBits 13 = .ok (.i2l, 1) := by decide +kernel
theorem dX5_lowBits_14 : decode cX5_lowBits 14 = .ok (.bipush 28, 2) := by decide +kernel
theorem dX5_lowBits_16 : decode cX5_lowBits 16 = .ok (.lshl, 1) := by decide +kernel
theorem dX5_lowBits_17 : decode cX5_lowBits 17 = .ok (.lor, 1) := by decide +kernel
theorem dX5_lowBits_18 : decode cX5_lowBits 18 = .ok (.aload_n 0, 1) := by decide +kernel
theorem dX5_lowBits_19 : decode cX5_lowBits 19 = .ok (.getfield 9, 3) := by decide +kernel
theorem dX5_lowBits_22 : decode cX5_lowBits 22 = .ok (.iconst 2, 1) := by decide +kernel
theorem dX5_lowBits_23 : decode cX5_lowBits 23 = .ok (.iaload, 1) := by decide +kernel
theorem dX5_lowBits_24 : decode cX5_lowBits 24 = .ok (.i2l, 1) := by decide +kernel
theorem dX5_lowBits_25 : decode cX5_lowBits 25 = .ok (.bipush 56, 2) := by decide +kernel
theorem dX5_lowBits_27 : decode cX5_lowBits 27 = .ok (.lshl, 1) := by decide +kernel
theorem dX5_lowBits_28 : decode cX5_lowBits 28 = .ok (.lor, 1) := by decide +kernel
theorem dX5_lowBits_29 : decode cX5_lowBits 29 = .ok (.lstore_n 1, 1) := by decide +kernel
theorem dX5_lowBits_30 : decode cX5_lowBits 30 = .ok (.aload_n 0, 1) := by decide +kernel
theorem dX5_lowBits_31 : decode cX5_lowBits 31 = .ok (.getfield 13, 3) := by decide +kernel
theorem dX5_lowBits_34 : decode cX5_lowBits 34 = .ok (.ifCond .eq 8, 3) := by decide +kernel
theorem dX5_lowBits_37 : decode cX5_lowBits 37 = .ok (.lload_n 1, 1) := by decide +kernel
theorem dX5_lowBits_38 : decode cX5_lowBits 38 = .ok (.lneg, 1) := by decide +kernel
theorem dX5_lowBits_39 : decode cX5_lowBits 39 = .ok (.goto 4, 3) := by decide +kernel
theorem dX5_lowBits_42 : decode cX5_lowBits 42 = .ok (.lload_n 1, 1) := by decide +kernel
theorem dX5_lowBits_43 : decode cX5_lowBits 43 = .ok (.lreturn, 1) := by decide +kernel
theorem dX6_init_0 : decode cX6_init 0 = .ok (.aload_n 0, 1) := by decide +kernel
theorem dX6_init_1 : decode cX6_init 1 = .ok (.invokespecial 1, 3) := by decide +kernel
theorem dX6_init_4 : decode cX6_init 4 = .ok (.aload_n 0, 1) := by decide +kernel
theorem dX6_init_5 : decode cX6_init 5 = .ok (.iconst 3, 1) := by decide +kernel
theorem dX6_init_6 : decode cX6_init 6 = .ok (.anewarray 9, 3) := by decide +kernel
theorem dX6_init_9 : decode cX6_init 9 = .ok (.putfield 11, 3) := by decide +kernel
theorem dX6_init_12 : decode cX6_init 12 = .ok (.aload_n 0, 1) := by decide +kernel
theorem dX6_init_13 : decode cX6_init 13 = .ok (.iconst 3, 1) := by decide +kernel
theorem dX6_init_14 : decode cX6_init 14 = .ok (.anewarray 15, 3) := by decide +kernel
theorem dX6_init_17 : decode cX6_init 17 = .ok (.putfield 17, 3) := by decide +kernel
theorem dX6_init_20 : decode cX6_init 20 = .ok (.aload_n 0, 1) := by decide +kernel
theorem dX6_init_21 : decode cX6_init 21 = .ok (.iconst 3, 1) := by decide +kernel
theorem dX6_init_22 : decode cX6_init 22 = .ok (.anewarray 21, 3) := by decide +kernel
theorem dX6_init_25 : decode cX6_init 25 = .ok (.putfield 23, 3) := by decide +kernel
theorem dX6_init_28 : decode cX6_init 28 = .ok (.aload_n 0, 1) := by decide +kernel
theorem dX6_init_29 : decode cX6_init 29 = .ok (.new 27, 3) := by decide +kernel
theorem dX6_init_32 : decode cX6_init 32 = .ok (.dup, 1) := by decide +kernel
theorem dX6_init_33 : decode cX6_init 33 = .ok (.invokespecial 29, 3) := by decide +kernel
theorem dX6_init_36 : decode cX6_init 36 = .ok (.putfield 30, 3) := by decide +kernel
theorem dX6_init_39 : decode cX6_init 39 = .ok (.aload_n 0, 1) := by decide +kernel
theorem dX6_init_40 : decode cX6_init 40 = .ok (.new 34, 3) := by decide +kernel
theorem dX6_init_43 : decode cX6_init 43 = .ok (.dup, 1) := by decide +kernel
theorem dX6_init_44 : decode cX6_init 44 = .ok (.invokespecial 36, 3) := by decide +kernel
theorem dX6_init_47 : decode cX6_init 47 = .ok (.putfield 37, 3) := by decide +kernel
theorem dX6_init_50 : decode cX6_init 50 = .ok (.aload_n 0, 1) := by decide +kernel
theorem dX6_init_51 : decode cX6_init 51 = .ok (.new 15, 3) := by decide +kernel
theorem dX6_init_54 : decode cX6_init 54 = .ok (.dup, 1) := by decide +kernel
theorem dX6_init_55 : decode cX6_init 55 = .ok (.invokespecial 41, 3) := by decide +kernel
theorem dX6_init_58 : decode cX6_init 58 = .ok (.putfield 42, 3) := by decide +kernel
theorem dX6_init_61 : decode cX6_init 61 = .ok (.aload_n 0, 1) := by decide +kernel
theorem dX6_init_62 : decode cX6_init 62 = .ok (.new 15, 3) := by decide +kernel
theorem dX6_init_65 : decode cX6_init 65 = .ok (.dup, 1) := by decide +kernel
theorem dX6_init_66 : decode cX6_init 66 = .ok (.invokespecial 41, 3) := by decide +kernel
theorem dX6_init_69 : decode cX6_init 69 = .ok (.putfield 46, 3) := by decide +kernel
theorem dX6_init_72 : decode cX6_init 72 = .ok (.aload_n 0, 1) := by decide +kernel
theorem dX6_init_73 : decode cX6_init 73 = .ok (.new 15, 3) := by decide +kernel
theorem dX6_init_76 : decode cX6_init 76 = .ok (.dup, 1) := by decide +kernel
theorem dX6_init_77 : decode cX6_init 77 = .ok (.invokespecial 41, 3) := by decide +kernel
theorem dX6_init_80 : decode cX6_init 80 = .ok (.putfield 49, 3) := by decide +kernel
theorem dX6_init_83 : decode cX6_init 83 = .ok (.aload_n 0, 1) := by decide +kernel
theorem dX6_init_84 : decode cX6_init 84 = .ok (.new 21, 3) := by decide +kernel
theorem dX6_init_87 : decode cX6_init 87 = .ok (.dup, 1) := by decide +kernel
theorem dX6_init_88 : decode cX6_init 88 = .ok (.invokespecial 52, 3) := by decide +kernel
theorem dX6_init_91 : decode cX6_init 91 = .ok (.putfield 53, 3) := by decide +kernel
theorem dX6_init_94 : decode cX6_init 94 = .ok (.aload_n 0, 1) := by decide +kernel
theorem dX6_init_95 : decode cX6_init 95 = .ok (.new 21, 3) := by decide +kernel
theorem dX6_init_98 : decode cX6_init 98 = .ok (.dup, 1) := by decide +kernel
theorem dX6_init_99 : decode cX6_init 99 = .ok (.invokespecial 52, 3) := by decide +kernel
theorem dX6_init_102 : decode cX6_init 102 = .ok (.putfield 57, 3) := by decide +kernel
theorem dX6_init_105 : decode cX6_init 105 = .ok (.iconst 0, 1) := by decide +kernel
theorem dX6_init_106 : decode cX6_init 106 = .ok (.istore_n 1, 1) := by decide +kernel
theorem dX6_init_107 : decode cX6_init 107 = .ok (.iload_n 1, 1) := by decide +kernel
theorem dX6_init_108 : decode cX6_init 108 = .ok (.iconst 3, 1) := by decide +kernel
theorem dX6_init_109 : decode cX6_init 109 = .ok (.if_icmp .ge 48, 3) := by decide +kernel
theorem dX6_init_112 : decode cX6_init 112 = .ok (.aload_n 0, 1) := by decide +kernel
theorem dX6_init_113 : decode cX6_init 113 = .ok (.getfield 11, 3) := by decide +kernel
theorem dX6_init_116 : decode cX6_init 116 = .ok (.iload_n 1, 1) := by decide +kernel
theorem dX6_init_117 : decode cX6_init 117 = .ok (.new 9, 3) := by decide +kernel
theorem dX6_init_120 : decode cX6_init 120 = .ok (.dup, 1) := by decide +kernel
theorem dX6_init_121 : decode cX6_init 121 = .ok (.invokespecial 60, 3) := by decide +kernel
theorem dX6_init_124 : decode cX6_init 124 = .ok (.aastore, 1) := by decide +kernel
theorem dX6_init_125 : decode cX6_init 125 = .ok (.aload_n 0, 1) := by decide +kernel
theorem dX6_init_126 : decode cX6_init 126 = .ok (.getfield 17, 3) := by decide +kernel
theorem dX6_init_129 : decode cX6_init 129 = .ok (.iload_n 1, 1) := by decide +kernel
theorem dX6_init_130 : decode cX6_init 130 = .ok (.new 15, 3) := by decide +kernel
theorem dX6_init_133 : decode cX6_init 133 = .ok (.dup, 1) := by decide +kernel
theorem dX6_init_134 : decode cX6_init 134 = .ok (.invokespecial 41, 3) := by decide +kernel
theorem dX6_init_137 : decode cX6_init 137 = .ok (.aastore, 1) := by decide +kernel
theorem dX6_init_138 : decode cX6_init 138 = .ok (.aload_n 0, 1) := by decide +kernel
theorem dX6_init_139 : decode cX6_init 139 = .ok (.getfield 23, 3) := by decide +kernel
theorem dX6_init_142 : decode cX6_init 142 = .ok (.iload_n 1, 1) := by decide +kernel
theorem dX6_init_143 : decode cX6_init 143 = .ok (.new 21, 3) := by decide +kernel
theorem dX6_init_146 : decode cX6_init 146 = .ok (.dup, 1) := by decide +kernel
theorem dX6_init_147 : decode cX6_init 147 = .ok (.invokespecial 52, 3) := by decide +kernel
theorem dX6_init_150 : decode cX6_init 150 = .ok (.aastore, 1) := by decide +kernel
theorem dX6_init_151 : decode cX6_init 151 = .ok (.iinc 1 1, 3) := by decide +kernel
theorem dX6_init_154 : decode cX6_init 154 = .ok (.goto (-47), 3) := by decide +kernel
theorem dX6_init_157 : decode cX6_init 157 = .ok (.return_, 1) := by decide +kernel
theorem dX6_open_0 : decode cX6_open 0 = .ok (.iload_n 1, 1) := by decide +kernel
theorem dX6_open_1 : decode cX6_open 1 = .ok (.invokestatic 61, 3) := by decide +kernel
theorem dX6_open_4 : decode cX6_open 4 = .ok (.iload_n 2, 1) := by decide +kernel
theorem dX6_open_5 : decode cX6_open 5 = .ok (.invokestatic 65, 3) := by decide +kernel
theorem dX6_open_8 : decode cX6_open 8 = .ok (.aload_n 0, 1) := by decide +kernel
theorem dX6_open_9 : decode cX6_open 9 = .ok (.getfield 11, 3) := by decide +kernel
theorem dX6_open_12 : decode cX6_open 12 = .ok (.iload_n 1, 1) := by decide +kernel
theorem dX6_open_13 : decode cX6_open 13 = .ok (.aaload, 1) := by decide +kernel
theorem dX6_open_14 : decode cX6_open 14 = .ok (.iload_n 2, 1) := by decide +kernel
theorem dX6_open_15 : decode cX6_open 15 = .ok (.putfield 68, 3) := by decide +kernel
theorem dX6_open_18 : decode cX6_open 18 = .ok (.aload_n 0, 1) := by decide +kernel
theorem dX6_open_19 : decode cX6_open 19 = .ok (.getfield 11, 3) := by decide +kernel
theorem dX6_open_22 : decode cX6_open 22 = .ok (.iload_n 1, 1) := by decide +kernel
theorem dX6_open_23 : decode cX6_open 23 = .ok (.aaload, 1) := by decide +kernel
theorem dX6_open_24 : decode cX6_open 24 = .ok (.iconst 0, 1) := by decide +kernel
theorem dX6_open_25 : decode cX6_open 25 = .ok (.putfield 72, 3) := by decide +kernel
theorem dX6_open_28 : decode cX6_open 28 = .ok (.aload_n 0, 1) := by decide +kernel
theorem dX6_open_29 : decode cX6_open 29 = .ok (.dup, 1) := by decide +kernel
theorem dX6_open_30 : decode cX6_open 30 = .ok (.getfield 75, 3) := by decide +kernel
theorem dX6_open_33 : decode cX6_open 33 = .ok (.iconst 1, 1) := by decide +kernel
theorem dX6_open_34 : decode cX6_open 34 = .ok (.iadd, 1) := by decide +kernel
theorem dX6_open_35 : decode cX6_open 35 = .ok (.putfield 75, 3) := by decide +kernel
theorem dX6_open_38 : decode cX6_open 38 = .ok (.iload_n 2, 1) := by decide +kernel
theorem dX6_open_39 : decode cX6_open 39 = .ok (.invokestatic 78, 3) := by decide +kernel
theorem dX6_open_42 : decode cX6_open 42 = .ok (.ireturn, 1) := by decide +kernel
theorem dX6_forth_0 : decode cX6_forth 0 = .ok (.iload_n 1, 1) := by decide +kernel
theorem dX6_forth_1 : decode cX6_forth 1 = .ok (.invokestatic 61, 3) := by decide +kernel
theorem dX6_forth_4 : decode cX6_forth 4 = .ok (.iload_n 2, 1) := by decide +kernel
theorem dX6_forth_5 : decode cX6_forth 5 = .ok (.iconst 1, 1) := by decide +kernel
theorem dX6_forth_6 : decode cX6_forth 6 = .ok (.bipush 6, 2) := by decide +kernel
theorem dX6_forth_8 : decode cX6_forth 8 = .ok (.invokestatic 82, 3) := by decide +kernel
theorem dX6_forth_11 : decode cX6_forth 11 = .ok (.aload_n 0, 1) := by decide +kernel
theorem dX6_forth_12 : decode cX6_forth 12 = .ok (.getfield 11, 3) := by decide +kernel
theorem dX6_forth_15 : decode cX6_forth 15 = .ok (.iload_n 1, 1) := by decide +kernel
theorem dX6_forth_16 : decode cX6_forth 16 = .ok (.aaload, 1) := by decide +kernel
theorem dX6_forth_17 : decode cX6_forth 17 = .ok (.astore_n 3, 1) := by decide +kernel
theorem dX6_forth_18 : decode cX6_forth 18 = .ok (.aload_n 3, 1) := by decide +kernel
theorem dX6_forth_19 : decode cX6_forth 19 = .ok (.getfield 72, 3) := by decide +kernel
theorem dX6_forth_22 : decode cX6_forth 22 = .ok (.iload_n 2, 1) := by decide +kernel
theorem dX6_forth_23 : decode cX6_forth 23 = .ok (.iadd, 1) := by decide +kernel
theorem dX6_forth_24 : decode cX6_forth 24 = .ok (.bipush 24, 2) := by decide +kernel
theorem dX6_forth_26 : decode cX6_forth 26 = .ok (.if_icmp .le 8, 3) := by decide +kernel
theorem dX6_forth_29 : decode cX6_forth 29 = .ok (.aload_n 0, 1) := by decide +kernel
theorem dX6_forth_30 : decode cX6_forth 30 = .ok (.invokevirtual 86, 3) := by decide +kernel
theorem dX6_forth_33 : decode cX6_forth 33 = .ok (.ireturn, 1) := by decide +kernel
theorem dX6_forth_34 : decode cX6_forth 34 = .ok (.aload_n 3, 1) := by decide +kernel
theorem dX6_forth_35 : decode cX6_forth 35 = .ok (.dup, 1) := by decide +kernel
theorem dX6_forth_36 : decode cX6_forth 36 = .ok (.getfield 72, 3) := by decide +kernel
theorem dX6_forth_39 : decode cX6_forth 39 = .ok (.iload_n 2, 1) := by decide +kernel
theorem dX6_forth_40 : decode cX6_forth 40 = .ok (.iadd, 1) := by decide +kernel
theorem dX6_forth_41 : decode cX6_forth 41 = .ok (.putfield 72, 3) := by decide +kernel
theorem dX6_forth_44 : decode cX6_forth 44 = .ok (.aload_n 0, 1) := by decide +kernel
theorem dX6_forth_45 : decode cX6_forth 45 = .ok (.dup, 1) := by decide +kernel
theorem dX6_forth_46 : decode cX6_forth 46 = .ok (.getfield 75, 3) := by decide +kernel
theorem dX6_forth_49 : decode cX6_forth 49 = .ok (.iconst 1, 1) := by decide +kernel
theorem dX6_forth_50 : decode cX6_forth 50 = .ok (.iadd, 1) := by decide +kernel
theorem dX6_forth_51 : decode cX6_forth 51 = .ok (.putfield 75, 3) := by decide +kernel
theorem dX6_forth_54 : decode cX6_forth 54 = .ok (.aload_n 3, 1) := by decide +kernel
theorem dX6_forth_55 : decode cX6_forth 55 = .ok (.getfield 72, 3) := by decide +kernel
theorem dX6_forth_58 : decode cX6_forth 58 = .ok (.ireturn, 1) := by decide +kernel
theorem dX6_back_0 : decode cX6_back 0 = .ok (.iload_n 1, 1) := by decide +kernel
theorem dX6_back_1 : decode cX6_back 1 = .ok (.invokestatic 61, 3) := by decide +kernel
theorem dX6_back_4 : decode cX6_back 4 = .ok (.aload_n 0, 1) := by decide +kernel
theorem dX6_back_5 : decode cX6_back 5 = .ok (.getfield 11, 3) := by decide +kernel
theorem dX6_back_8 : decode cX6_back 8 = .ok (.iload_n 1, 1) := by decide +kernel
theorem dX6_back_9 : decode cX6_back 9 = .ok (.aaload, 1) := by decide +kernel
theorem dX6_back_10 : decode cX6_back 10 = .ok (.astore_n 2, 1) := by decide +kernel
theorem dX6_back_11 : decode cX6_back 11 = .ok (.aload_n 2, 1) := by decide +kernel
theorem dX6_back_12 : decode cX6_back 12 = .ok (.getfield 72, 3) := by decide +kernel
theorem dX6_back_15 : decode cX6_back 15 = .ok (.ifCond .ne 8, 3) := by decide +kernel
theorem dX6_back_18 : decode cX6_back 18 = .ok (.aload_n 0, 1) := by decide +kernel
theorem dX6_back_19 : decode cX6_back 19 = .ok (.invokevirtual 86, 3) := by decide +kernel
theorem dX6_back_22 : decode cX6_back 22 = .ok (.ireturn, 1) := by decide +kernel
theorem dX6_back_23 : decode cX6_back 23 = .ok (.aload_n 2, 1) := by decide +kernel
theorem dX6_back_24 : decode cX6_back 24 = .ok (.dup, 1) := by decide +kernel
theorem dX6_back_25 : decode cX6_back 25 = .ok (.getfield 72, 3) := by decide +kernel
theorem dX6_back_28 : decode cX6_back 28 = .ok (.iconst 1, 1) := by decide +kernel
theorem dX6_back_29 : decode cX6_back 29 = .ok (.isub, 1) := by decide +kernel
theorem dX6_back_30 : decode cX6_back 30 = .ok (.putfield 72, 3) := by decide +kernel
theorem dX6_back_33 : decode cX6_back 33 = .ok (.aload_n 0, 1) := by decide +kernel
theorem dX6_back_34 : decode cX6_back 34 = .ok (.dup, 1) := by decide +kernel
theorem dX6_back_35 : decode cX6_back 35 = .ok (.getfield 75, 3) := by decide +kernel
theorem dX6_back_38 : decode cX6_back 38 = .ok (.iconst 1, 1) := by decide +kernel
theorem dX6_back_39 : decode cX6_back 39 = .ok (.iadd, 1) := by decide +kernel
theorem dX6_back_40 : decode cX6_back 40 = .ok (.putfield 75, 3) := by decide +kernel
theorem dX6_back_43 : decode cX6_back 43 = .ok (.aload_n 2, 1) := by decide +kernel
theorem dX6_back_44 : decode cX6_back 44 = .ok (.getfield 72, 3) := by decide +kernel
theorem dX6_back_47 : decode cX6_back 47 = .ok (.ireturn, 1) := by decide +kernel
theorem dX6_walkCopy_0 : decode cX6_walkCopy 0 = .ok (.iload_n 1, 1) := by decide +kernel
theorem dX6_walkCopy_1 : decode cX6_walkCopy 1 = .ok (.invokestatic 61, 3) := by decide +kernel
theorem dX6_walkCopy_4 : decode cX6_walkCopy 4 = .ok (.iload_n 2, 1) := by decide +kernel
theorem dX6_walkCopy_5 : decode cX6_walkCopy 5 = .ok (.invokestatic 61, 3) := by decide +kernel
theorem dX6_walkCopy_8 : decode cX6_walkCopy 8 = .ok (.aload_n 0, 1) := by decide +kernel
theorem dX6_walkCopy_9 : decode cX6_walkCopy 9 = .ok (.getfield 11, 3) := by decide +kernel
theorem dX6_walkCopy_12 : decode cX6_walkCopy 12 = .ok (.iload_n 1, 1) := by decide +kernel
theorem dX6_walkCopy_13 : decode cX6_walkCopy 13 = .ok (.aaload, 1) := by decide +kernel
theorem dX6_walkCopy_14 : decode cX6_walkCopy 14 = .ok (.astore_n 3, 1) := by decide +kernel
theorem dX6_walkCopy_15 : decode cX6_walkCopy 15 = .ok (.aload_n 0, 1) := by decide +kernel
theorem dX6_walkCopy_16 : decode cX6_walkCopy 16 = .ok (.getfield 11, 3) := by decide +kernel
theorem dX6_walkCopy_19 : decode cX6_walkCopy 19 = .ok (.iload_n 2, 1) := by decide +kernel
theorem dX6_walkCopy_20 : decode cX6_walkCopy 20 = .ok (.aaload, 1) := by decide +kernel
theorem dX6_walkCopy_21 : decode cX6_walkCopy 21 = .ok (.astore 4, 2) := by decide +kernel
theorem dX6_walkCopy_23 : decode cX6_walkCopy 23 = .ok (.aload 4, 2) := by decide +kernel
theorem dX6_walkCopy_25 : decode cX6_walkCopy 25 = .ok (.getfield 68, 3) := by decide +kernel
theorem dX6_walkCopy_28 : decode cX6_walkCopy 28 = .ok (.aload_n 3, 1) := by decide +kernel
theorem dX6_walkCopy_29 : decode cX6_walkCopy 29 = .ok (.getfield 68, 3) := by decide +kernel
theorem dX6_walkCopy_32 : decode cX6_walkCopy 32 = .ok (.if_icmp .ne 15, 3) := by decide +kernel
theorem dX6_walkCopy_35 : decode cX6_walkCopy 35 = .ok (.aload 4, 2) := by decide +kernel
theorem dX6_walkCopy_37 : decode cX6_walkCopy 37 = .ok (.getfield 72, 3) := by decide +kernel
theorem dX6_walkCopy_40 : decode cX6_walkCopy 40 = .ok (.aload_n 3, 1) := by decide +kernel
theorem dX6_walkCopy_41 : decode cX6_walkCopy 41 = .ok (.getfield 72, 3) := by decide +kernel
theorem dX6_walkCopy_44 : decode cX6_walkCopy 44 = .ok (.if_icmp .eq 7, 3) := by decide +kernel
theorem dX6_walkCopy_47 : decode cX6_walkCopy 47 = .ok (.iconst 1, 1) := by decide +kernel
theorem dX6_walkCopy_48 : decode cX6_walkCopy 48 = .ok (.goto 4, 3) := by decide +kernel
theorem dX6_walkCopy_51 : decode cX6_walkCopy 51 = .ok (.iconst 0, 1) := by decide +kernel
theorem dX6_walkCopy_52 : decode cX6_walkCopy 52 = .ok (.istore 5, 2) := by decide +kernel
theorem dX6_walkCopy_54 : decode cX6_walkCopy 54 = .ok (.aload 4, 2) := by decide +kernel
theorem dX6_walkCopy_56 : decode cX6_walkCopy 56 = .ok (.aload_n 3, 1) := by decide +kernel
theorem dX6_walkCopy_57 : decode cX6_walkCopy 57 = .ok (.getfield 68, 3) := by decide +kernel
theorem dX6_walkCopy_60 : decode cX6_walkCopy 60 = .ok (.putfield 68, 3) := by decide +kernel
theorem dX6_walkCopy_63 : decode cX6_walkCopy 63 = .ok (.aload 4, 2) := by decide +kernel
theorem dX6_walkCopy_65 : decode cX6_walkCopy 65 = .ok (.aload_n 3, 1) := by decide +kernel
theorem dX6_walkCopy_66 : decode cX6_walkCopy 66 = .ok (.getfield 72, 3) := by decide +kernel
theorem dX6_walkCopy_69 : decode cX6_walkCopy 69 = .ok (.putfield 72, 3) := by decide +kernel
theorem dX6_walkCopy_72 : decode cX6_walkCopy 72 = .ok (.aload_n 0, 1) := by decide +kernel
theorem dX6_walkCopy_73 : decode cX6_walkCopy 73 = .ok (.dup, 1) := by decide +kernel
theorem dX6_walkCopy_74 : decode cX6_walkCopy 74 = .ok (.getfield 75, 3) := by decide +kernel
theorem dX6_walkCopy_77 : decode cX6_walkCopy 77 = .ok (.iconst 1, 1) := by decide +kernel
theorem dX6_walkCopy_78 : decode cX6_walkCopy 78 = .ok (.iadd, 1) := by decide +kernel
theorem dX6_walkCopy_79 : decode cX6_walkCopy 79 = .ok (.putfield 75, 3) := by decide +kernel
theorem dX6_walkCopy_82 : decode cX6_walkCopy 82 = .ok (.iload 5, 2) := by decide +kernel
theorem dX6_walkCopy_84 : decode cX6_walkCopy 84 = .ok (.ifCond .eq 7, 3) := by decide +kernel
theorem dX6_walkCopy_87 : decode cX6_walkCopy 87 = .ok (.iconst 1, 1) := by decide +kernel
theorem dX6_walkCopy_88 : decode cX6_walkCopy 88 = .ok (.goto 4, 3) := by decide +kernel
theorem dX6_walkCopy_91 : decode cX6_walkCopy 91 = .ok (.iconst 0, 1) := by decide +kernel
theorem dX6_walkCopy_92 : decode cX6_walkCopy 92 = .ok (.ireturn, 1) := by decide +kernel
theorem dX6_part_0 : decode cX6_part 0 = .ok (.iload_n 1, 1) := by decide +kernel
theorem dX6_part_1 : decode cX6_part 1 = .ok (.invokestatic 61, 3) := by decide +kernel
theorem dX6_part_4 : decode cX6_part 4 = .ok (.iload_n 2, 1) := by decide +kernel
theorem dX6_part_5 : decode cX6_part 5 = .ok (.iconst 0, 1) := by decide +kernel
theorem dX6_part_6 : decode cX6_part 6 = .ok (.iconst 5, 1) := by decide +kernel
theorem dX6_part_7 : decode cX6_part 7 = .ok (.invokestatic 82, 3) := by decide +kernel
theorem dX6_part_10 : decode cX6_part 10 = .ok (.aload_n 0, 1) := by decide +kernel
theorem dX6_part_11 : decode cX6_part 11 = .ok (.aload_n 0, 1) := by decide +kernel
theorem dX6_part_12 : decode cX6_part 12 = .ok (.iload_n 1, 1) := by decide +kernel
theorem dX6_part_13 : decode cX6_part 13 = .ok (.invokevirtual 90, 3) := by decide +kernel
theorem dX6_part_16 : decode cX6_part 16 = .ok (.iload_n 2, 1) := by decide +kernel
theorem dX6_part_17 : decode cX6_part 17 = .ok (.invokevirtual 94, 3) := by decide +kernel
theorem dX6_part_20 : decode cX6_part 20 = .ok (.ireturn, 1) := by decide +kernel
theorem dX6_walkText_0 : decode cX6_walkText 0 = .ok (.iload_n 1, 1) := by decide +kernel
theorem dX6_walkText_1 : decode cX6_walkText 1 = .ok (.invokestatic 61, 3) := by decide +kernel
theorem dX6_walkText_4 : decode cX6_walkText 4 = .ok (.iload_n 2, 1) := by decide +kernel
theorem dX6_walkText_5 : decode cX6_walkText 5 = .ok (.iconst 0, 1) := by decide +kernel
theorem dX6_walkText_6 : decode cX6_walkText 6 = .ok (.iconst 3, 1) := by decide +kernel
theorem dX6_walkText_7 : decode cX6_walkText 7 = .ok (.invokestatic 82, 3) := by decide +kernel
theorem dX6_walkText_10 : decode cX6_walkText 10 = .ok (.iload_n 3, 1) := by decide +kernel
theorem dX6_walkText_11 : decode cX6_walkText 11 = .ok (.iconst 2, 1) := by decide +kernel
theorem dX6_walkText_12 : decode cX6_walkText 12 = .ok (.bipush 16, 2) := by decide +kernel
theorem dX6_walkText_14 : decode cX6_walkText 14 = .ok (.invokestatic 82, 3) := by decide +kernel
theorem dX6_walkText_17 : decode cX6_walkText 17 = .ok (.aload_n 0, 1) := by decide +kernel
theorem dX6_walkText_18 : decode cX6_walkText 18 = .ok (.getfield 37, 3) := by decide +kernel
theorem dX6_walkText_21 : decode cX6_walkText 21 = .ok (.aload_n 0, 1) := by decide +kernel
theorem dX6_walkText_22 : decode cX6_walkText 22 = .ok (.aload_n 0, 1) := by decide +kernel
theorem dX6_walkText_23 : decode cX6_walkText 23 = .ok (.iload_n 1, 1) := by decide +kernel
theorem dX6_walkText_24 : decode cX6_walkText 24 = .ok (.invokevirtual 90, 3) := by decide +kernel
theorem dX6_walkText_27 : decode cX6_walkText 27 = .ok (.iload_n 2, 1) := by decide +kernel
theorem dX6_walkText_28 : decode cX6_walkText 28 = .ok (.invokevirtual 98, 3) := by decide +kernel
theorem dX6_walkText_31 : decode cX6_walkText 31 = .ok (.iload_n 3, 1) := by decide +kernel
theorem dX6_walkText_32 : decode cX6_walkText 32 = .ok (.invokevirtual 102, 3) := by decide +kernel
theorem dX6_walkText_35 : decode cX6_walkText 35 = .ok (.areturn, 1) := by decide +kernel
theorem dX6_test_0 : decode cX6_test 0 = .ok (.iload_n 1, 1) := by decide +kernel
theorem dX6_test_1 : decode cX6_test 1 = .ok (.invokestatic 61, 3) := by decide +kernel
theorem dX6_test_4 : decode cX6_test 4 = .ok (.iload_n 2, 1) := by decide +kernel
theorem dX6_test_5 : decode cX6_test 5 = .ok (.iconst 0, 1) := by decide +kernel
theorem dX6_test_6 : decode cX6_test 6 = .ok (.iconst 2, 1) := by decide +kernel
theorem dX6_test_7 : decode cX6_test 7 = .ok (.invokestatic 82, 3) := by decide +kernel
theorem dX6_test_10 : decode cX6_test 10 = .ok (.aload_n 0, 1) := by decide +kernel
theorem dX6_test_11 : decode cX6_test 11 = .ok (.aload_n 0, 1) := by decide +kernel
theorem dX6_test_12 : decode cX6_test 12 = .ok (.iload_n 1, 1) := by decide +kernel
theorem dX6_test_13 : decode cX6_test 13 = .ok (.invokevirtual 90, 3) := by decide +kernel
theorem dX6_test_16 : decode cX6_test 16 = .ok (.iload_n 2, 1) := by decide +kernel
theorem dX6_test_17 : decode cX6_test 17 = .ok (.invokevirtual 106, 3) := by decide +kernel
theorem dX6_test_20 : decode cX6_test 20 = .ok (.ireturn, 1) := by decide +kernel
theorem dX6_walkBits_0 : decode cX6_walkBits 0 = .ok (.iload_n 1, 1) := by decide +kernel
theorem dX6_walkBits_1 : decode cX6_walkBits 1 = .ok (.invokestatic 61, 3) := by decide +kernel
theorem dX6_walkBits_4 : decode cX6_walkBits 4 = .ok (.iload_n 3, 1) := by decide +kernel
theorem dX6_walkBits_5 : decode cX6_walkBits 5 = .ok (.iconst 0, 1) := by decide +kernel
theorem dX6_walkBits_6 : decode cX6_walkBits 6 = .ok (.iconst 2, 1) := by decide +kernel
theorem dX6_walkBits_7 : decode cX6_walkBits 7 = .ok (.invokestatic 82, 3) := by decide +kernel
theorem dX6_walkBits_10 : decode cX6_walkBits 10 = .ok (.aload_n 0, 1) := by decide +kernel
theorem dX6_walkBits_11 : decode cX6_walkBits 11 = .ok (.aload_n 0, 1) := by decide +kernel
theorem dX6_walkBits_12 : decode cX6_walkBits 12 = .ok (.iload_n 1, 1) := by decide +kernel
theorem dX6_walkBits_13 : decode cX6_walkBits 13 = .ok (.invokevirtual 90, 3) := by decide +kernel
theorem dX6_walkBits_16 : decode cX6_walkBits 16 = .ok (.iload_n 2, 1) := by decide +kernel
theorem dX6_walkBits_17 : decode cX6_walkBits 17 = .ok (.ifCond .eq 7, 3) := by decide +kernel
theorem dX6_walkBits_20 : decode cX6_walkBits 20 = .ok (.iconst 0, 1) := by decide +kernel
theorem dX6_walkBits_21 : decode cX6_walkBits 21 = .ok (.goto 4, 3) := by decide +kernel
theorem dX6_walkBits_24 : decode cX6_walkBits 24 = .ok (.iconst 1, 1) := by decide +kernel
theorem dX6_walkBits_25 : decode cX6_walkBits 25 = .ok (.invokevirtual 98, 3) := by decide +kernel
theorem dX6_walkBits_28 : decode cX6_walkBits 28 = .ok (.iload_n 3, 1) := by decide +kernel
theorem dX6_walkBits_29 : decode cX6_walkBits 29 = .ok (.invokestatic 109, 3) := by decide +kernel
theorem dX6_walkBits_32 : decode cX6_walkBits 32 = .ok (.ireturn, 1) := by decide +kernel
theorem dX6_bit_0 : decode cX6_bit 0 = .ok (.iload_n 1, 1) := by decide +kernel
theorem dX6_bit_1 : decode cX6_bit 1 = .ok (.invokestatic 61, 3) := by decide +kernel
theorem dX6_bit_4 : decode cX6_bit 4 = .ok (.iload_n 3, 1) := by decide +kernel
theorem dX6_bit_5 : decode cX6_bit 5 = .ok (.iconst 0, 1) := by decide +kernel
theorem dX6_bit_6 : decode cX6_bit 6 = .ok (.bipush 119, 2) := by decide +kernel
theorem dX6_bit_8 : decode cX6_bit 8 = .ok (.invokestatic 82, 3) := by decide +kernel
theorem dX6_bit_11 : decode cX6_bit 11 = .ok (.aload_n 0, 1) := by decide +kernel
theorem dX6_bit_12 : decode cX6_bit 12 = .ok (.aload_n 0, 1) := by decide +kernel
theorem dX6_bit_13 : decode cX6_bit 13 = .ok (.iload_n 1, 1) := by decide +kernel
theorem dX6_bit_14 : decode cX6_bit 14 = .ok (.invokevirtual 90, 3) := by decide +kernel
theorem dX6_bit_17 : decode cX6_bit 17 = .ok (.iload_n 2, 1) := by decide +kernel
theorem dX6_bit_18 : decode cX6_bit 18 = .ok (.ifCond .eq 7, 3) := by decide +kernel
theorem dX6_bit_21 : decode cX6_bit 21 = .ok (.iconst 0, 1) := by decide +kernel
theorem dX6_bit_22 : decode cX6_bit 22 = .ok (.goto 4, 3) := by decide +kernel
theorem dX6_bit_25 : decode cX6_bit 25 = .ok (.iconst 1, 1) := by decide +kernel
theorem dX6_bit_26 : decode cX6_bit 26 = .ok (.invokevirtual 98, 3) := by decide +kernel
theorem dX6_bit_29 : decode cX6_bit 29 = .ok (.iload_n 3, 1) := by decide +kernel
theorem dX6_bit_30 : decode cX6_bit 30 = .ok (.invokevirtual 113, 3) := by decide +kernel
theorem dX6_bit_33 : decode cX6_bit 33 = .ok (.ireturn, 1) := by decide +kernel
theorem dX6_isRead_0 : decode cX6_isRead 0 = .ok (.iload_n 1, 1) := by decide +kernel
theorem dX6_isRead_1 : decode cX6_isRead 1 = .ok (.invokestatic 61, 3) := by decide +kernel
theorem dX6_isRead_4 : decode cX6_isRead 4 = .ok (.iload_n 2, 1) := by decide +kernel
theorem dX6_isRead_5 : decode cX6_isRead 5 = .ok (.ifCond .eq 10, 3) := by decide +kernel
theorem dX6_isRead_8 : decode cX6_isRead 8 = .ok (.iload_n 2, 1) := by decide +kernel
theorem dX6_isRead_9 : decode cX6_isRead 9 = .ok (.iconst 2, 1) := by decide +kernel
theorem dX6_isRead_10 : decode cX6_isRead 10 = .ok (.bipush 16, 2) := by decide +kernel
theorem dX6_isRead_12 : decode cX6_isRead 12 = .ok (.invokestatic 82, 3) := by decide +kernel
theorem dX6_isRead_15 : decode cX6_isRead 15 = .ok (.aload_n 0, 1) := by decide +kernel
theorem dX6_isRead_16 : decode cX6_isRead 16 = .ok (.iload_n 1, 1) := by decide +kernel
theorem dX6_isRead_17 : decode cX6_isRead 17 = .ok (.invokevirtual 90, 3) := by decide +kernel
theorem dX6_isRead_20 : decode cX6_isRead 20 = .ok (.astore_n 3, 1) := by decide +kernel
theorem dX6_isRead_21 : decode cX6_isRead 21 = .ok (.aload_n 0, 1) := by decide +kernel
theorem dX6_isRead_22 : decode cX6_isRead 22 = .ok (.getfield 30, 3) := by decide +kernel
theorem dX6_isRead_25 : decode cX6_isRead 25 = .ok (.aload_n 3, 1) := by decide +kernel
theorem dX6_isRead_26 : decode cX6_isRead 26 = .ok (.getfield 72, 3) := by decide +kernel
theorem dX6_isRead_29 : decode cX6_isRead 29 = .ok (.invokevirtual 119, 3) := by decide +kernel
theorem dX6_isRead_32 : decode cX6_isRead 32 = .ok (.astore 4, 2) := by decide +kernel
theorem dX6_isRead_34 : decode cX6_isRead 34 = .ok (.aload_n 0, 1) := by decide +kernel
theorem dX6_isRead_35 : decode cX6_isRead 35 = .ok (.getfield 30, 3) := by decide +kernel
theorem dX6_isRead_38 : decode cX6_isRead 38 = .ok (.aload_n 3, 1) := by decide +kernel
theorem dX6_isRead_39 : decode cX6_isRead 39 = .ok (.getfield 72, 3) := by decide +kernel
theorem dX6_isRead_42 : decode cX6_isRead 42 = .ok (.invokevirtual 123, 3) := by decide +kernel
theorem dX6_isRead_45 : decode cX6_isRead 45 = .ok (.astore 5, 2) := by decide +kernel
theorem dX6_isRead_47 : decode cX6_isRead 47 = .ok (.iload_n 2, 1) := by decide +kernel
theorem dX6_isRead_48 : decode cX6_isRead 48 = .ok (.ifCond .ne 35, 3) := by decide +kernel
theorem dX6_isRead_51 : decode cX6_isRead 51 = .ok (.aload_n 0, 1) := by decide +kernel
theorem dX6_isRead_52 : decode cX6_isRead 52 = .ok (.getfield 37, 3) := by decide +kernel
theorem dX6_isRead_55 : decode cX6_isRead 55 = .ok (.aload 4, 2) := by decide +kernel
theorem dX6_isRead_57 : decode cX6_isRead 57 = .ok (.invokevirtual 126, 3) := by decide +kernel
theorem dX6_isRead_60 : decode cX6_isRead 60 = .ok (.ifCond .eq 19, 3) := by decide +kernel
theorem dX6_isRead_63 : decode cX6_isRead 63 = .ok (.aload_n 0, 1) := by decide +kernel
theorem dX6_isRead_64 : decode cX6_isRead 64 = .ok (.getfield 37, 3) := by decide +kernel
theorem dX6_isRead_67 : decode cX6_isRead 67 = .ok (.aload 5, 2) := by decide +kernel
theorem dX6_isRead_69 : decode cX6_isRead 69 = .ok (.invokevirtual 126, 3) := by decide +kernel
theorem dX6_isRead_72 : decode cX6_isRead 72 = .ok (.ifCond .eq 7, 3) := by decide +kernel
theorem dX6_isRead_75 : decode cX6_isRead 75 = .ok (.iconst 1, 1) := by decide +kernel
theorem dX6_isRead_76 : decode cX6_isRead 76 = .ok (.goto 19, 3) := by decide +kernel
theorem dX6_isRead_79 : decode cX6_isRead 79 = .ok (.iconst 0, 1) := by decide +kernel
theorem dX6_isRead_80 : decode cX6_isRead 80 = .ok (.goto 15, 3) := by decide +kernel
theorem dX6_isRead_83 : decode cX6_isRead 83 = .ok (.aload_n 0, 1) := by decide +kernel
theorem dX6_isRead_84 : decode cX6_isRead 84 = .ok (.getfield 37, 3) := by decide +kernel
theorem dX6_isRead_87 : decode cX6_isRead 87 = .ok (.aload 4, 2) := by decide +kernel
theorem dX6_isRead_89 : decode cX6_isRead 89 = .ok (.aload 5, 2) := by decide +kernel
theorem dX6_isRead_91 : decode cX6_isRead 91 = .ok (.iload_n 2, 1) := by decide +kernel
theorem dX6_isRead_92 : decode cX6_isRead 92 = .ok (.invokevirtual 130, 3) := by decide +kernel
theorem dX6_isRead_95 : decode cX6_isRead 95 = .ok (.ireturn, 1) := by decide +kernel
theorem dX6_isNear_0 : decode cX6_isNear 0 = .ok (.iload_n 1, 1) := by decide +kernel
theorem dX6_isNear_1 : decode cX6_isNear 1 = .ok (.invokestatic 61, 3) := by decide +kernel
theorem dX6_isNear_4 : decode cX6_isNear 4 = .ok (.iload_n 2, 1) := by decide +kernel
theorem dX6_isNear_5 : decode cX6_isNear 5 = .ok (.iconst 1, 1) := by decide +kernel
theorem dX6_isNear_6 : decode cX6_isNear 6 = .ok (.iconst 3, 1) := by decide +kernel
theorem dX6_isNear_7 : decode cX6_isNear 7 = .ok (.invokestatic 82, 3) := by decide +kernel
theorem dX6_isNear_10 : decode cX6_isNear 10 = .ok (.aload_n 0, 1) := by decide +kernel
theorem dX6_isNear_11 : decode cX6_isNear 11 = .ok (.iload_n 1, 1) := by decide +kernel
theorem dX6_isNear_12 : decode cX6_isNear 12 = .ok (.invokevirtual 90, 3) := by decide +kernel
theorem dX6_isNear_15 : decode cX6_isNear 15 = .ok (.astore_n 3, 1) := by decide +kernel
theorem dX6_isNear_16 : decode cX6_isNear 16 = .ok (.aload_n 0, 1) := by decide +kernel
theorem dX6_isNear_17 : decode cX6_isNear 17 = .ok (.getfield 30, 3) := by decide +kernel
theorem dX6_isNear_20 : decode cX6_isNear 20 = .ok (.aload_n 3, 1) := by decide +kernel
theorem dX6_isNear_21 : decode cX6_isNear 21 = .ok (.getfield 72, 3) := by decide +kernel
theorem dX6_isNear_24 : decode cX6_isNear 24 = .ok (.iconst 1, 1) := by decide +kernel
theorem dX6_isNear_25 : decode cX6_isNear 25 = .ok (.iadd, 1) := by decide +kernel
theorem dX6_isNear_26 : decode cX6_isNear 26 = .ok (.invokevirtual 123, 3) := by decide +kernel
theorem dX6_isNear_29 : decode cX6_isNear 29 = .ok (.astore 4, 2) := by decide +kernel
theorem dX6_isNear_31 : decode cX6_isNear 31 = .ok (.aload_n 0, 1) := by decide +kernel
theorem dX6_isNear_32 : decode cX6_isNear 32 = .ok (.getfield 37, 3) := by decide +kernel
theorem dX6_isNear_35 : decode cX6_isNear 35 = .ok (.aload_n 3, 1) := by decide +kernel
theorem dX6_isNear_36 : decode cX6_isNear 36 = .ok (.getfield 68, 3) := by decide +kernel
theorem dX6_isNear_39 : decode cX6_isNear 39 = .ok (.aload_n 0, 1) := by decide +kernel
theorem dX6_isNear_40 : decode cX6_isNear 40 = .ok (.getfield 30, 3) := by decide +kernel
theorem dX6_isNear_43 : decode cX6_isNear 43 = .ok (.aload_n 3, 1) := by decide +kernel
theorem dX6_isNear_44 : decode cX6_isNear 44 = .ok (.getfield 72, 3) := by decide +kernel
theorem dX6_isNear_47 : decode cX6_isNear 47 = .ok (.invokevirtual 119, 3) := by decide +kernel
theorem dX6_isNear_50 : decode cX6_isNear 50 = .ok (.aload_n 0, 1) := by decide +kernel
theorem dX6_isNear_51 : decode cX6_isNear 51 = .ok (.getfield 30, 3) := by decide +kernel
theorem dX6_isNear_54 : decode cX6_isNear 54 = .ok (.aload_n 3, 1) := by decide +kernel
theorem dX6_isNear_55 : decode cX6_isNear 55 = .ok (.getfield 72, 3) := by decide +kernel
theorem dX6_isNear_58 : decode cX6_isNear 58 = .ok (.invokevirtual 123, 3) := by decide +kernel
theorem dX6_isNear_61 : decode cX6_isNear 61 = .ok (.aload 4, 2) := by decide +kernel
theorem dX6_isNear_63 : decode cX6_isNear 63 = .ok (.iload_n 2, 1) := by decide +kernel
theorem dX6_isNear_64 : decode cX6_isNear 64 = .ok (.invokevirtual 134, 3) := by decide +kernel
theorem dX6_isNear_67 : decode cX6_isNear 67 = .ok (.ireturn, 1) := by decide +kernel
theorem dX6_decimals_0 : decode cX6_decimals 0 = .ok (.iload_n 1, 1) := by decide +kernel
theorem dX6_decimals_1 : decode cX6_decimals 1 = .ok (.invokestatic 61, 3) := by decide +kernel
theorem dX6_decimals_4 : decode cX6_decimals 4 = .ok (.iload_n 2, 1) := by decide +kernel
theorem dX6_decimals_5 : decode cX6_decimals 5 = .ok (.iconst 0, 1) := by decide +kernel
theorem dX6_decimals_6 : decode cX6_decimals 6 = .ok (.bipush 16, 2) := by decide +kernel
theorem dX6_decimals_8 : decode cX6_decimals 8 = .ok (.invokestatic 82, 3) := by decide +kernel
theorem dX6_decimals_11 : decode cX6_decimals 11 = .ok (.aload_n 0, 1) := by decide +kernel
theorem dX6_decimals_12 : decode cX6_decimals 12 = .ok (.getfield 37, 3) := by decide +kernel
theorem dX6_decimals_15 : decode cX6_decimals 15 = .ok (.aload_n 0, 1) := by decide +kernel
theorem dX6_decimals_16 : decode cX6_decimals 16 = .ok (.aload_n 0, 1) := by decide +kernel
theorem dX6_decimals_17 : decode cX6_decimals 17 = .ok (.iload_n 1, 1) := by decide +kernel
theorem dX6_decimals_18 : decode cX6_decimals 18 = .ok (.invokevirtual 90, 3) := by decide +kernel
theorem dX6_decimals_21 : decode cX6_decimals 21 = .ok (.iload_n 2, 1) := by decide +kernel
theorem dX6_decimals_22 : decode cX6_decimals 22 = .ok (.invokevirtual 138, 3) := by decide +kernel
theorem dX6_decimals_25 : decode cX6_decimals 25 = .ok (.invokevirtual 142, 3) := by decide +kernel
theorem dX6_decimals_28 : decode cX6_decimals 28 = .ok (.areturn, 1) := by decide +kernel
theorem dX6_alike_0 : decode cX6_alike 0 = .ok (.iload_n 1, 1) := by decide +kernel
theorem dX6_alike_1 : decode cX6_alike 1 = .ok (.invokestatic 61, 3) := by decide +kernel
theorem dX6_alike_4 : decode cX6_alike 4 = .ok (.aload_n 0, 1) := by decide +kernel
theorem dX6_alike_5 : decode cX6_alike 5 = .ok (.iload_n 1, 1) := by decide +kernel
theorem dX6_alike_6 : decode cX6_alike 6 = .ok (.invokevirtual 90, 3) := by decide +kernel
theorem dX6_alike_9 : decode cX6_alike 9 = .ok (.astore_n 2, 1) := by decide +kernel
theorem dX6_alike_10 : decode cX6_alike 10 = .ok (.aload_n 0, 1) := by decide +kernel
theorem dX6_alike_11 : decode cX6_alike 11 = .ok (.aload_n 2, 1) := by decide +kernel
theorem dX6_alike_12 : decode cX6_alike 12 = .ok (.bipush 16, 2) := by decide +kernel
theorem dX6_alike_14 : decode cX6_alike 14 = .ok (.invokevirtual 138, 3) := by decide +kernel
theorem dX6_alike_17 : decode cX6_alike 17 = .ok (.lstore_n 3, 1) := by decide +kernel
theorem dX6_alike_18 : decode cX6_alike 18 = .ok (.aload_n 2, 1) := by decide +kernel
theorem dX6_alike_19 : decode cX6_alike 19 = .ok (.getfield 68, 3) := by decide +kernel
theorem dX6_alike_22 : decode cX6_alike 22 = .ok (.bipush 16, 2) := by decide +kernel
theorem dX6_alike_24 : decode cX6_alike 24 = .ok (.invokestatic 146, 3) := by decide +kernel
theorem dX6_alike_27 : decode cX6_alike 27 = .ok (.lstore 5, 2) := by decide +kernel
theorem dX6_alike_29 : decode cX6_alike 29 = .ok (.bipush 16, 2) := by decide +kernel
theorem dX6_alike_31 : decode cX6_alike 31 = .ok (.istore 7, 2) := by decide +kernel
theorem dX6_alike_33 : decode cX6_alike 33 = .ok (.iload 7, 2) := by decide +kernel
theorem dX6_alike_35 : decode cX6_alike 35 = .ok (.ifCond .lt 33, 3) := by decide +kernel
theorem dX6_alike_38 : decode cX6_alike 38 = .ok (.lload_n 3, 1) := by decide +kernel
theorem dX6_alike_39 : decode cX6_alike 39 = .ok (.lload 5, 2) := by decide +kernel
theorem dX6_alike_41 : decode cX6_alike 41 = .ok (.lcmp, 1) := by decide +kernel
theorem dX6_alike_42 : decode cX6_alike 42 = .ok (.ifCond .ne 6, 3) := by decide +kernel
theorem dX6_alike_45 : decode cX6_alike 45 = .ok (.iload 7, 2) := by decide +kernel
theorem dX6_alike_47 : decode cX6_alike 47 = .ok (.ireturn, 1) := by decide +kernel
theorem dX6_alike_48 : decode cX6_alike 48 = .ok (.lload_n 3, 1) := by decide +kernel
theorem dX6_alike_49 : decode cX6_alike 49 = .ok (.ldc2_w 150, 3) := by decide +kernel
theorem dX6_alike_52 : decode cX6_alike 52 = .ok (.ldiv, 1) := by decide +kernel
theorem dX6_alike_53 : decode cX6_alike 53 = .ok (.lstore_n 3, 1) := by decide +kernel
theorem dX6_alike_54 : decode cX6_alike 54 = .ok (.lload 5, 2) := by decide +kernel
theorem dX6_alike_56 : decode cX6_alike 56 = .ok (.ldc2_w 150, 3) := by decide +kernel
theorem dX6_alike_59 : decode cX6_alike 59 = .ok (.ldiv, 1) := by decide +kernel
theorem dX6_alike_60 : decode cX6_alike 60 = .ok (.lstore 5, 2) := by decide +kernel
theorem dX6_alike_62 : decode cX6_alike 62 = .ok (.iinc 7 (-1), 3) := by decide +kernel
theorem dX6_alike_65 : decode cX6_alike 65 = .ok (.goto (-32), 3) := by decide +kernel
theorem dX6_alike_68 : decode cX6_alike 68 = .ok (.iconst (-1), 1) := by decide +kernel
theorem dX6_alike_69 : decode cX6_alike 69 = .ok (.ireturn, 1) := by decide +kernel
theorem dX6_rootText_0 : decode cX6_rootText 0 = .ok (.iload_n 1, 1) := by decide +kernel
theorem dX6_rootText_1 : decode cX6_rootText 1 = .ok (.iconst 1, 1) := by decide +kernel
theorem dX6_rootText_2 : decode cX6_rootText 2 = .ok (.bipush 99, 2) := by decide +kernel
theorem dX6_rootText_4 : decode cX6_rootText 4 = .ok (.invokestatic 82, 3) := by decide +kernel
theorem dX6_rootText_7 : decode cX6_rootText 7 = .ok (.iload_n 2, 1) := by decide +kernel
theorem dX6_rootText_8 : decode cX6_rootText 8 = .ok (.iconst 0, 1) := by decide +kernel
theorem dX6_rootText_9 : decode cX6_rootText 9 = .ok (.bipush 16, 2) := by decide +kernel
theorem dX6_rootText_11 : decode cX6_rootText 11 = .ok (.invokestatic 82, 3) := by decide +kernel
theorem dX6_rootText_14 : decode cX6_rootText 14 = .ok (.aload_n 0, 1) := by decide +kernel
theorem dX6_rootText_15 : decode cX6_rootText 15 = .ok (.getfield 37, 3) := by decide +kernel
theorem dX6_rootText_18 : decode cX6_rootText 18 = .ok (.iload_n 1, 1) := by decide +kernel
theorem dX6_rootText_19 : decode cX6_rootText 19 = .ok (.iload_n 2, 1) := by decide +kernel
theorem dX6_rootText_20 : decode cX6_rootText 20 = .ok (.invokestatic 146, 3) := by decide +kernel
theorem dX6_rootText_23 : decode cX6_rootText 23 = .ok (.invokevirtual 142, 3) := by decide +kernel
theorem dX6_rootText_26 : decode cX6_rootText 26 = .ok (.areturn, 1) := by decide +kernel
theorem dX6_period_0 : decode cX6_period 0 = .ok (.iload_n 1, 1) := by decide +kernel
theorem dX6_period_1 : decode cX6_period 1 = .ok (.invokestatic 65, 3) := by decide +kernel
theorem dX6_period_4 : decode cX6_period 4 = .ok (.aload_n 0, 1) := by decide +kernel
theorem dX6_period_5 : decode cX6_period 5 = .ok (.getfield 30, 3) := by decide +kernel
theorem dX6_period_8 : decode cX6_period 8 = .ok (.iload_n 1, 1) := by decide +kernel
theorem dX6_period_9 : decode cX6_period 9 = .ok (.invokevirtual 152, 3) := by decide +kernel
theorem dX6_period_12 : decode cX6_period 12 = .ok (.aload_n 0, 1) := by decide +kernel
theorem dX6_period_13 : decode cX6_period 13 = .ok (.getfield 30, 3) := by decide +kernel
theorem dX6_period_16 : decode cX6_period 16 = .ok (.invokevirtual 155, 3) := by decide +kernel
theorem dX6_period_19 : decode cX6_period 19 = .ok (.ireturn, 1) := by decide +kernel
theorem dX6_periodText_0 : decode cX6_periodText 0 = .ok (.iload_n 1, 1) := by decide +kernel
theorem dX6_periodText_1 : decode cX6_periodText 1 = .ok (.invokestatic 65, 3) := by decide +kernel
theorem dX6_periodText_4 : decode cX6_periodText 4 = .ok (.aload_n 0, 1) := by decide +kernel
theorem dX6_periodText_5 : decode cX6_periodText 5 = .ok (.getfield 30, 3) := by decide +kernel
theorem dX6_periodText_8 : decode cX6_periodText 8 = .ok (.iload_n 1, 1) := by decide +kernel
theorem dX6_periodText_9 : decode cX6_periodText 9 = .ok (.invokevirtual 152, 3) := by decide +kernel
theorem dX6_periodText_12 : decode cX6_periodText 12 = .ok (.aload_n 0, 1) := by decide +kernel
theorem dX6_periodText_13 : decode cX6_periodText 13 = .ok (.getfield 30, 3) := by decide +kernel
theorem dX6_periodText_16 : decode cX6_periodText 16 = .ok (.invokevirtual 155, 3) := by decide +kernel
theorem dX6_periodText_19 : decode cX6_periodText 19 = .ok (.istore_n 2, 1) := by decide +kernel
theorem dX6_periodText_20 : decode cX6_periodText 20 = .ok (.new 158, 3) := by decide +kernel
theorem dX6_periodText_23 : decode cX6_periodText 23 = .ok (.dup, 1) := by decide +kernel
theorem dX6_periodText_24 : decode cX6_periodText 24 = .ok (.invokespecial 160, 3) := by decide +kernel
theorem dX6_periodText_27 : decode cX6_periodText 27 = .ok (.astore_n 3, 1) := by decide +kernel
theorem dX6_periodText_28 : decode cX6_periodText 28 = .ok (.aload_n 3, 1) := by decide +kernel
theorem dX6_periodText_29 : decode cX6_periodText 29 = .ok (.aload_n 0, 1) := by decide +kernel
theorem dX6_periodText_30 : decode cX6_periodText 30 = .ok (.getfield 30, 3) := by decide +kernel
theorem dX6_periodText_33 : decode cX6_periodText 33 = .ok (.iconst 0, 1) := by decide +kernel
theorem dX6_periodText_34 : decode cX6_periodText 34 = .ok (.invokevirtual 161, 3) := by decide +kernel
theorem dX6_periodText_37 : decode cX6_periodText 37 = .ok (.invokevirtual 164, 3) := by decide +kernel
theorem dX6_periodText_40 : decode cX6_periodText 40 = .ok (.pop, 1) := by decide +kernel
theorem dX6_periodText_41 : decode cX6_periodText 41 = .ok (.iconst 1, 1) := by decide +kernel
theorem dX6_periodText_42 : decode cX6_periodText 42 = .ok (.istore 4, 2) := by decide +kernel
theorem dX6_periodText_44 : decode cX6_periodText 44 = .ok (.iload 4, 2) := by decide +kernel
theorem dX6_periodText_46 : decode cX6_periodText 46 = .ok (.iload_n 2, 1) := by decide +kernel
theorem dX6_periodText_47 : decode cX6_periodText 47 = .ok (.if_icmp .gt 28, 3) := by decide +kernel
theorem dX6_periodText_50 : decode cX6_periodText 50 = .ok (.aload_n 3, 1) := by decide +kernel
theorem dX6_periodText_51 : decode cX6_periodText 51 = .ok (.bipush 32, 2) := by decide +kernel
theorem dX6_periodText_53 : decode cX6_periodText 53 = .ok (.invokevirtual 168, 3) := by decide +kernel
theorem dX6_periodText_56 : decode cX6_periodText 56 = .ok (.aload_n 0, 1) := by decide +kernel
theorem dX6_periodText_57 : decode cX6_periodText 57 = .ok (.getfield 30, 3) := by decide +kernel
theorem dX6_periodText_60 : decode cX6_periodText 60 = .ok (.iload 4, 2) := by decide +kernel
theorem dX6_periodText_62 : decode cX6_periodText 62 = .ok (.invokevirtual 161, 3) := by decide +kernel
theorem dX6_periodText_65 : decode cX6_periodText 65 = .ok (.invokevirtual 164, 3) := by decide +kernel
theorem dX6_periodText_68 : decode cX6_periodText 68 = .ok (.pop, 1) := by decide +kernel
theorem dX6_periodText_69 : decode cX6_periodText 69 = .ok (.iinc 4 1, 3) := by decide +kernel
theorem dX6_periodText_72 : decode cX6_periodText 72 = .ok (.goto (-28), 3) := by decide +kernel
theorem dX6_periodText_75 : decode cX6_periodText 75 = .ok (.aload_n 3, 1) := by decide +kernel
theorem dX6_periodText_76 : decode cX6_periodText 76 = .ok (.invokevirtual 171, 3) := by decide +kernel
theorem dX6_periodText_79 : decode cX6_periodText 79 = .ok (.areturn, 1) := by decide +kernel
theorem dX6_solution_0 : decode cX6_solution 0 = .ok (.iload_n 1, 1) := by decide +kernel
theorem dX6_solution_1 : decode cX6_solution 1 = .ok (.invokestatic 65, 3) := by decide +kernel
theorem dX6_solution_4 : decode cX6_solution 4 = .ok (.aload_n 0, 1) := by decide +kernel
theorem dX6_solution_5 : decode cX6_solution 5 = .ok (.getfield 30, 3) := by decide +kernel
theorem dX6_solution_8 : decode cX6_solution 8 = .ok (.iload_n 1, 1) := by decide +kernel
theorem dX6_solution_9 : decode cX6_solution 9 = .ok (.invokevirtual 152, 3) := by decide +kernel
theorem dX6_solution_12 : decode cX6_solution 12 = .ok (.aload_n 0, 1) := by decide +kernel
theorem dX6_solution_13 : decode cX6_solution 13 = .ok (.getfield 30, 3) := by decide +kernel
theorem dX6_solution_16 : decode cX6_solution 16 = .ok (.invokevirtual 175, 3) := by decide +kernel
theorem dX6_solution_19 : decode cX6_solution 19 = .ok (.istore_n 3, 1) := by decide +kernel
theorem dX6_solution_20 : decode cX6_solution 20 = .ok (.aload_n 0, 1) := by decide +kernel
theorem dX6_solution_21 : decode cX6_solution 21 = .ok (.getfield 37, 3) := by decide +kernel
theorem dX6_solution_24 : decode cX6_solution 24 = .ok (.iload_n 2, 1) := by decide +kernel
theorem dX6_solution_25 : decode cX6_solution 25 = .ok (.ifCond .eq 14, 3) := by decide +kernel
theorem dX6_solution_28 : decode cX6_solution 28 = .ok (.aload_n 0, 1) := by decide +kernel
theorem dX6_solution_29 : decode cX6_solution 29 = .ok (.getfield 30, 3) := by decide +kernel
theorem dX6_solution_32 : decode cX6_solution 32 = .ok (.iload_n 3, 1) := by decide +kernel
theorem dX6_solution_33 : decode cX6_solution 33 = .ok (.invokevirtual 119, 3) := by decide +kernel
theorem dX6_solution_36 : decode cX6_solution 36 = .ok (.goto 11, 3) := by decide +kernel
theorem dX6_solution_39 : decode cX6_solution 39 = .ok (.aload_n 0, 1) := by decide +kernel
theorem dX6_solution_40 : decode cX6_solution 40 = .ok (.getfield 30, 3) := by decide +kernel
theorem dX6_solution_43 : decode cX6_solution 43 = .ok (.iload_n 3, 1) := by decide +kernel
theorem dX6_solution_44 : decode cX6_solution 44 = .ok (.invokevirtual 123, 3) := by decide +kernel
theorem dX6_solution_47 : decode cX6_solution 47 = .ok (.bipush 10, 2) := by decide +kernel
theorem dX6_solution_49 : decode cX6_solution 49 = .ok (.invokevirtual 102, 3) := by decide +kernel
theorem dX6_solution_52 : decode cX6_solution 52 = .ok (.areturn, 1) := by decide +kernel
theorem dX6_minus_0 : decode cX6_minus 0 = .ok (.iload_n 1, 1) := by decide +kernel
theorem dX6_minus_1 : decode cX6_minus 1 = .ok (.invokestatic 65, 3) := by decide +kernel
theorem dX6_minus_4 : decode cX6_minus 4 = .ok (.aload_n 0, 1) := by decide +kernel
theorem dX6_minus_5 : decode cX6_minus 5 = .ok (.getfield 30, 3) := by decide +kernel
theorem dX6_minus_8 : decode cX6_minus 8 = .ok (.iload_n 1, 1) := by decide +kernel
theorem dX6_minus_9 : decode cX6_minus 9 = .ok (.invokevirtual 152, 3) := by decide +kernel
theorem dX6_minus_12 : decode cX6_minus 12 = .ok (.aload_n 0, 1) := by decide +kernel
theorem dX6_minus_13 : decode cX6_minus 13 = .ok (.getfield 30, 3) := by decide +kernel
theorem dX6_minus_16 : decode cX6_minus 16 = .ok (.invokevirtual 178, 3) := by decide +kernel
theorem dX6_minus_19 : decode cX6_minus 19 = .ok (.ifCond .ne 6, 3) := by decide +kernel
theorem dX6_minus_22 : decode cX6_minus 22 = .ok (.ldc 182, 2) := by decide +kernel
theorem dX6_minus_24 : decode cX6_minus 24 = .ok (.areturn, 1) := by decide +kernel
theorem dX6_minus_25 : decode cX6_minus 25 = .ok (.aload_n 0, 1) := by decide +kernel
theorem dX6_minus_26 : decode cX6_minus 26 = .ok (.getfield 30, 3) := by decide +kernel
theorem dX6_minus_29 : decode cX6_minus 29 = .ok (.invokevirtual 155, 3) := by decide +kernel
theorem dX6_minus_32 : decode cX6_minus 32 = .ok (.iconst 1, 1) := by decide +kernel
theorem dX6_minus_33 : decode cX6_minus 33 = .ok (.isub, 1) := by decide +kernel
theorem dX6_minus_34 : decode cX6_minus 34 = .ok (.istore_n 3, 1) := by decide +kernel
theorem dX6_minus_35 : decode cX6_minus 35 = .ok (.aload_n 0, 1) := by decide +kernel
theorem dX6_minus_36 : decode cX6_minus 36 = .ok (.getfield 37, 3) := by decide +kernel
theorem dX6_minus_39 : decode cX6_minus 39 = .ok (.iload_n 2, 1) := by decide +kernel
theorem dX6_minus_40 : decode cX6_minus 40 = .ok (.ifCond .eq 14, 3) := by decide +kernel
theorem dX6_minus_43 : decode cX6_minus 43 = .ok (.aload_n 0, 1) := by decide +kernel
theorem dX6_minus_44 : decode cX6_minus 44 = .ok (.getfield 30, 3) := by decide +kernel
theorem dX6_minus_47 : decode cX6_minus 47 = .ok (.iload_n 3, 1) := by decide +kernel
theorem dX6_minus_48 : decode cX6_minus 48 = .ok (.invokevirtual 119, 3) := by decide +kernel
theorem dX6_minus_51 : decode cX6_minus 51 = .ok (.goto 11, 3) := by decide +kernel
theorem dX6_minus_54 : decode cX6_minus 54 = .ok (.aload_n 0, 1) := by decide +kernel
theorem dX6_minus_55 : decode cX6_minus 55 = .ok (.getfield 30, 3) := by decide +kernel
theorem dX6_minus_58 : decode cX6_minus 58 = .ok (.iload_n 3, 1) := by decide +kernel
theorem dX6_minus_59 : decode cX6_minus 59 = .ok (.invokevirtual 123, 3) := by decide +kernel
theorem dX6_minus_62 : decode cX6_minus 62 = .ok (.bipush 10, 2) := by decide +kernel
theorem dX6_minus_64 : decode cX6_minus 64 = .ok (.invokevirtual 102, 3) := by decide +kernel
theorem dX6_minus_67 : decode cX6_minus 67 = .ok (.areturn, 1) := by decide +kernel
theorem dX6_middle_0 : decode cX6_middle 0 = .ok (.iload_n 1, 1) := by decide +kernel
theorem dX6_middle_1 : decode cX6_middle 1 = .ok (.invokestatic 65, 3) := by decide +kernel
theorem dX6_middle_4 : decode cX6_middle 4 = .ok (.aload_n 0, 1) := by decide +kernel
theorem dX6_middle_5 : decode cX6_middle 5 = .ok (.getfield 30, 3) := by decide +kernel
theorem dX6_middle_8 : decode cX6_middle 8 = .ok (.iload_n 1, 1) := by decide +kernel
theorem dX6_middle_9 : decode cX6_middle 9 = .ok (.invokevirtual 152, 3) := by decide +kernel
theorem dX6_middle_12 : decode cX6_middle 12 = .ok (.aload_n 0, 1) := by decide +kernel
theorem dX6_middle_13 : decode cX6_middle 13 = .ok (.getfield 30, 3) := by decide +kernel
theorem dX6_middle_16 : decode cX6_middle 16 = .ok (.invokevirtual 178, 3) := by decide +kernel
theorem dX6_middle_19 : decode cX6_middle 19 = .ok (.ifCond .ne 6, 3) := by decide +kernel
theorem dX6_middle_22 : decode cX6_middle 22 = .ok (.ldc 182, 2) := by decide +kernel
theorem dX6_middle_24 : decode cX6_middle 24 = .ok (.areturn, 1) := by decide +kernel
theorem dX6_middle_25 : decode cX6_middle 25 = .ok (.aload_n 0, 1) := by decide +kernel
theorem dX6_middle_26 : decode cX6_middle 26 = .ok (.getfield 30, 3) := by decide +kernel
theorem dX6_middle_29 : decode cX6_middle 29 = .ok (.invokevirtual 155, 3) := by decide +kernel
theorem dX6_middle_32 : decode cX6_middle 32 = .ok (.iconst 1, 1) := by decide +kernel
theorem dX6_middle_33 : decode cX6_middle 33 = .ok (.iadd, 1) := by decide +kernel
theorem dX6_middle_34 : decode cX6_middle 34 = .ok (.iconst 2, 1) := by decide +kernel
theorem dX6_middle_35 : decode cX6_middle 35 = .ok (.idiv, 1) := by decide +kernel
theorem dX6_middle_36 : decode cX6_middle 36 = .ok (.istore_n 2, 1) := by decide +kernel
theorem dX6_middle_37 : decode cX6_middle 37 = .ok (.new 158, 3) := by decide +kernel
theorem dX6_middle_40 : decode cX6_middle 40 = .ok (.dup, 1) := by decide +kernel
theorem dX6_middle_41 : decode cX6_middle 41 = .ok (.invokespecial 160, 3) := by decide +kernel
theorem dX6_middle_44 : decode cX6_middle 44 = .ok (.astore_n 3, 1) := by decide +kernel
theorem dX6_middle_45 : decode cX6_middle 45 = .ok (.aload_n 3, 1) := by decide +kernel
theorem dX6_middle_46 : decode cX6_middle 46 = .ok (.aload_n 0, 1) := by decide +kernel
theorem dX6_middle_47 : decode cX6_middle 47 = .ok (.getfield 30, 3) := by decide +kernel
theorem dX6_middle_50 : decode cX6_middle 50 = .ok (.iload_n 2, 1) := by decide +kernel
theorem dX6_middle_51 : decode cX6_middle 51 = .ok (.invokevirtual 184, 3) := by decide +kernel
theorem dX6_middle_54 : decode cX6_middle 54 = .ok (.invokevirtual 164, 3) := by decide +kernel
theorem dX6_middle_57 : decode cX6_middle 57 = .ok (.bipush 32, 2) := by decide +kernel
theorem dX6_middle_59 : decode cX6_middle 59 = .ok (.invokevirtual 168, 3) := by decide +kernel
theorem dX6_middle_62 : decode cX6_middle 62 = .ok (.aload_n 0, 1) := by decide +kernel
theorem dX6_middle_63 : decode cX6_middle 63 = .ok (.getfield 30, 3) := by decide +kernel
theorem dX6_middle_66 : decode cX6_middle 66 = .ok (.iload_n 2, 1) := by decide +kernel
theorem dX6_middle_67 : decode cX6_middle 67 = .ok (.invokevirtual 187, 3) := by decide +kernel
theorem dX6_middle_70 : decode cX6_middle 70 = .ok (.invokevirtual 164, 3) := by decide +kernel
theorem dX6_middle_73 : decode cX6_middle 73 = .ok (.pop, 1) := by decide +kernel
theorem dX6_middle_74 : decode cX6_middle 74 = .ok (.aload_n 3, 1) := by decide +kernel
theorem dX6_middle_75 : decode cX6_middle 75 = .ok (.invokevirtual 171, 3) := by decide +kernel
theorem dX6_middle_78 : decode cX6_middle 78 = .ok (.areturn, 1) := by decide +kernel
theorem dX6_put_0 : decode cX6_put 0 = .ok (.iload_n 1, 1) := by decide +kernel
theorem dX6_put_1 : decode cX6_put 1 = .ok (.invokestatic 61, 3) := by decide +kernel
theorem dX6_put_4 : decode cX6_put 4 = .ok (.iload_n 2, 1) := by decide +kernel
theorem dX6_put_5 : decode cX6_put 5 = .ok (.invokestatic 65, 3) := by decide +kernel
theorem dX6_put_8 : decode cX6_put 8 = .ok (.iload_n 3, 1) := by decide +kernel
theorem dX6_put_9 : decode cX6_put 9 = .ok (.sipush (-1000), 3) := by decide +kernel
theorem dX6_put_12 : decode cX6_put 12 = .ok (.sipush 1000, 3) := by decide +kernel
theorem dX6_put_15 : decode cX6_put 15 = .ok (.invokestatic 82, 3) := by decide +kernel
theorem dX6_put_18 : decode cX6_put 18 = .ok (.iload 4, 2) := by decide +kernel
theorem dX6_put_20 : decode cX6_put 20 = .ok (.sipush (-1000), 3) := by decide +kernel
theorem dX6_put_23 : decode cX6_put 23 = .ok (.sipush 1000, 3) := by decide +kernel
theorem dX6_put_26 : decode cX6_put 26 = .ok (.invokestatic 82, 3) := by decide +kernel
theorem dX6_put_29 : decode cX6_put 29 = .ok (.aload_n 0, 1) := by decide +kernel
theorem dX6_put_30 : decode cX6_put 30 = .ok (.getfield 42, 3) := by decide +kernel
theorem dX6_put_33 : decode cX6_put 33 = .ok (.iload_n 2, 1) := by decide +kernel
theorem dX6_put_34 : decode cX6_put 34 = .ok (.iload_n 3, 1) := by decide +kernel
theorem dX6_put_35 : decode cX6_put 35 = .ok (.iload 4, 2) := by decide +kernel
theorem dX6_put_37 : decode cX6_put 37 = .ok (.invokevirtual 190, 3) := by decide +kernel
theorem dX6_put_40 : decode cX6_put 40 = .ok (.aload_n 0, 1) := by decide +kernel
theorem dX6_put_41 : decode cX6_put 41 = .ok (.aload_n 0, 1) := by decide +kernel
theorem dX6_put_42 : decode cX6_put 42 = .ok (.getfield 17, 3) := by decide +kernel
theorem dX6_put_45 : decode cX6_put 45 = .ok (.iload_n 1, 1) := by decide +kernel
theorem dX6_put_46 : decode cX6_put 46 = .ok (.aaload, 1) := by decide +kernel
theorem dX6_put_47 : decode cX6_put 47 = .ok (.invokevirtual 193, 3) := by decide +kernel
theorem dX6_put_50 : decode cX6_put 50 = .ok (.ireturn, 1) := by decide +kernel
theorem dX6_take_0 : decode cX6_take 0 = .ok (.iload_n 1, 1) := by decide +kernel
theorem dX6_take_1 : decode cX6_take 1 = .ok (.invokestatic 61, 3) := by decide +kernel
theorem dX6_take_4 : decode cX6_take 4 = .ok (.iload_n 2, 1) := by decide +kernel
theorem dX6_take_5 : decode cX6_take 5 = .ok (.invokestatic 61, 3) := by decide +kernel
theorem dX6_take_8 : decode cX6_take 8 = .ok (.aload_n 0, 1) := by decide +kernel
theorem dX6_take_9 : decode cX6_take 9 = .ok (.iload_n 1, 1) := by decide +kernel
theorem dX6_take_10 : decode cX6_take 10 = .ok (.invokevirtual 90, 3) := by decide +kernel
theorem dX6_take_13 : decode cX6_take 13 = .ok (.astore_n 3, 1) := by decide +kernel
theorem dX6_take_14 : decode cX6_take 14 = .ok (.aload_n 0, 1) := by decide +kernel
theorem dX6_take_15 : decode cX6_take 15 = .ok (.getfield 42, 3) := by decide +kernel
theorem dX6_take_18 : decode cX6_take 18 = .ok (.aload_n 3, 1) := by decide +kernel
theorem dX6_take_19 : decode cX6_take 19 = .ok (.getfield 68, 3) := by decide +kernel
theorem dX6_take_22 : decode cX6_take 22 = .ok (.aload_n 0, 1) := by decide +kernel
theorem dX6_take_23 : decode cX6_take 23 = .ok (.getfield 30, 3) := by decide +kernel
theorem dX6_take_26 : decode cX6_take 26 = .ok (.aload_n 3, 1) := by decide +kernel
theorem dX6_take_27 : decode cX6_take 27 = .ok (.getfield 72, 3) := by decide +kernel
theorem dX6_take_30 : decode cX6_take 30 = .ok (.invokevirtual 119, 3) := by decide +kernel
theorem dX6_take_33 : decode cX6_take 33 = .ok (.aload_n 0, 1) := by decide +kernel
theorem dX6_take_34 : decode cX6_take 34 = .ok (.getfield 30, 3) := by decide +kernel
theorem dX6_take_37 : decode cX6_take 37 = .ok (.aload_n 3, 1) := by decide +kernel
theorem dX6_take_38 : decode cX6_take 38 = .ok (.getfield 72, 3) := by decide +kernel
theorem dX6_take_41 : decode cX6_take 41 = .ok (.invokevirtual 123, 3) := by decide +kernel
theorem dX6_take_44 : decode cX6_take 44 = .ok (.invokevirtual 197, 3) := by decide +kernel
theorem dX6_take_47 : decode cX6_take 47 = .ok (.aload_n 0, 1) := by decide +kernel
theorem dX6_take_48 : decode cX6_take 48 = .ok (.aload_n 0, 1) := by decide +kernel
theorem dX6_take_49 : decode cX6_take 49 = .ok (.getfield 17, 3) := by decide +kernel
theorem dX6_take_52 : decode cX6_take 52 = .ok (.iload_n 2, 1) := by decide +kernel
theorem dX6_take_53 : decode cX6_take 53 = .ok (.aaload, 1) := by decide +kernel
theorem dX6_take_54 : decode cX6_take 54 = .ok (.invokevirtual 193, 3) := by decide +kernel
theorem dX6_take_57 : decode cX6_take 57 = .ok (.ireturn, 1) := by decide +kernel
theorem dX6_least_0 : decode cX6_least 0 = .ok (.iload_n 1, 1) := by decide +kernel
theorem dX6_least_1 : decode cX6_least 1 = .ok (.invokestatic 61, 3) := by decide +kernel
theorem dX6_least_4 : decode cX6_least 4 = .ok (.iload_n 2, 1) := by decide +kernel
theorem dX6_least_5 : decode cX6_least 5 = .ok (.invokestatic 65, 3) := by decide +kernel
theorem dX6_least_8 : decode cX6_least 8 = .ok (.aload_n 0, 1) := by decide +kernel
theorem dX6_least_9 : decode cX6_least 9 = .ok (.aload_n 0, 1) := by decide +kernel
theorem dX6_least_10 : decode cX6_least 10 = .ok (.getfield 42, 3) := by decide +kernel
theorem dX6_least_13 : decode cX6_least 13 = .ok (.iload_n 2, 1) := by decide +kernel
theorem dX6_least_14 : decode cX6_least 14 = .ok (.invokevirtual 201, 3) := by decide +kernel
theorem dX6_least_17 : decode cX6_least 17 = .ok (.aload_n 0, 1) := by decide +kernel
theorem dX6_least_18 : decode cX6_least 18 = .ok (.aload_n 0, 1) := by decide +kernel
theorem dX6_least_19 : decode cX6_least 19 = .ok (.getfield 17, 3) := by decide +kernel
theorem dX6_least_22 : decode cX6_least 22 = .ok (.iload_n 1, 1) := by decide +kernel
theorem dX6_least_23 : decode cX6_least 23 = .ok (.aaload, 1) := by decide +kernel
theorem dX6_least_24 : decode cX6_least 24 = .ok (.invokevirtual 193, 3) := by decide +kernel
theorem dX6_least_27 : decode cX6_least 27 = .ok (.ireturn, 1) := by decide +kernel
theorem dX6_compose_0 : decode cX6_compose 0 = .ok (.iload_n 1, 1) := by decide +kernel
theorem dX6_compose_1 : decode cX6_compose 1 = .ok (.invokestatic 61, 3) := by decide +kernel
theorem dX6_compose_4 : decode cX6_compose 4 = .ok (.iload_n 2, 1) := by decide +kernel
theorem dX6_compose_5 : decode cX6_compose 5 = .ok (.invokestatic 61, 3) := by decide +kernel
theorem dX6_compose_8 : decode cX6_compose 8 = .ok (.iload_n 3, 1) := by decide +kernel
theorem dX6_compose_9 : decode cX6_compose 9 = .ok (.invokestatic 61, 3) := by decide +kernel
theorem dX6_compose_12 : decode cX6_compose 12 = .ok (.aload_n 0, 1) := by decide +kernel
theorem dX6_compose_13 : decode cX6_compose 13 = .ok (.getfield 17, 3) := by decide +kernel
theorem dX6_compose_16 : decode cX6_compose 16 = .ok (.iload_n 1, 1) := by decide +kernel
theorem dX6_compose_17 : decode cX6_compose 17 = .ok (.aaload, 1) := by decide +kernel
theorem dX6_compose_18 : decode cX6_compose 18 = .ok (.getfield 205, 3) := by decide +kernel
theorem dX6_compose_21 : decode cX6_compose 21 = .ok (.aload_n 0, 1) := by decide +kernel
theorem dX6_compose_22 : decode cX6_compose 22 = .ok (.getfield 17, 3) := by decide +kernel
theorem dX6_compose_25 : decode cX6_compose 25 = .ok (.iload_n 2, 1) := by decide +kernel
theorem dX6_compose_26 : decode cX6_compose 26 = .ok (.aaload, 1) := by decide +kernel
theorem dX6_compose_27 : decode cX6_compose 27 = .ok (.getfield 205, 3) := by decide +kernel
theorem dX6_compose_30 : decode cX6_compose 30 = .ok (.if_icmp .eq 8, 3) := by decide +kernel
theorem dX6_compose_33 : decode cX6_compose 33 = .ok (.aload_n 0, 1) := by decide +kernel
theorem dX6_compose_34 : decode cX6_compose 34 = .ok (.invokevirtual 86, 3) := by decide +kernel
theorem dX6_compose_37 : decode cX6_compose 37 = .ok (.ireturn, 1) := by decide +kernel
theorem dX6_compose_38 : decode cX6_compose 38 = .ok (.aload_n 0, 1) := by decide +kernel
theorem dX6_compose_39 : decode cX6_compose 39 = .ok (.getfield 37, 3) := by decide +kernel
theorem dX6_compose_42 : decode cX6_compose 42 = .ok (.aload_n 0, 1) := by decide +kernel
theorem dX6_compose_43 : decode cX6_compose 43 = .ok (.getfield 17, 3) := by decide +kernel
theorem dX6_compose_46 : decode cX6_compose 46 = .ok (.iload_n 1, 1) := by decide +kernel
theorem dX6_compose_47 : decode cX6_compose 47 = .ok (.aaload, 1) := by decide +kernel
theorem dX6_compose_48 : decode cX6_compose 48 = .ok (.aload_n 0, 1) := by decide +kernel
theorem dX6_compose_49 : decode cX6_compose 49 = .ok (.getfield 17, 3) := by decide +kernel
theorem dX6_compose_52 : decode cX6_compose 52 = .ok (.iload_n 2, 1) := by decide +kernel
theorem dX6_compose_53 : decode cX6_compose 53 = .ok (.aaload, 1) := by decide +kernel
theorem dX6_compose_54 : decode cX6_compose 54 = .ok (.aload_n 0, 1) := by decide +kernel
theorem dX6_compose_55 : decode cX6_compose 55 = .ok (.getfield 42, 3) := by decide +kernel
theorem dX6_compose_58 : decode cX6_compose 58 = .ok (.invokevirtual 206, 3) := by decide +kernel
theorem dX6_compose_61 : decode cX6_compose 61 = .ok (.aload_n 0, 1) := by decide +kernel
theorem dX6_compose_62 : decode cX6_compose 62 = .ok (.aload_n 0, 1) := by decide +kernel
theorem dX6_compose_63 : decode cX6_compose 63 = .ok (.getfield 17, 3) := by decide +kernel
theorem dX6_compose_66 : decode cX6_compose 66 = .ok (.iload_n 3, 1) := by decide +kernel
theorem dX6_compose_67 : decode cX6_compose 67 = .ok (.aaload, 1) := by decide +kernel
theorem dX6_compose_68 : decode cX6_compose 68 = .ok (.invokevirtual 193, 3) := by decide +kernel
theorem dX6_compose_71 : decode cX6_compose 71 = .ok (.ireturn, 1) := by decide +kernel
theorem dX6_power_0 : decode cX6_power 0 = .ok (.iload_n 1, 1) := by decide +kernel
theorem dX6_power_1 : decode cX6_power 1 = .ok (.invokestatic 61, 3) := by decide +kernel
theorem dX6_power_4 : decode cX6_power 4 = .ok (.iload_n 2, 1) := by decide +kernel
theorem dX6_power_5 : decode cX6_power 5 = .ok (.iconst 0, 1) := by decide +kernel
theorem dX6_power_6 : decode cX6_power 6 = .ok (.iconst 5, 1) := by decide +kernel
theorem dX6_power_7 : decode cX6_power 7 = .ok (.invokestatic 82, 3) := by decide +kernel
theorem dX6_power_10 : decode cX6_power 10 = .ok (.aload_n 0, 1) := by decide +kernel
theorem dX6_power_11 : decode cX6_power 11 = .ok (.getfield 42, 3) := by decide +kernel
theorem dX6_power_14 : decode cX6_power 14 = .ok (.aload_n 0, 1) := by decide +kernel
theorem dX6_power_15 : decode cX6_power 15 = .ok (.getfield 17, 3) := by decide +kernel
theorem dX6_power_18 : decode cX6_power 18 = .ok (.iload_n 1, 1) := by decide +kernel
theorem dX6_power_19 : decode cX6_power 19 = .ok (.aaload, 1) := by decide +kernel
theorem dX6_power_20 : decode cX6_power 20 = .ok (.getfield 205, 3) := by decide +kernel
theorem dX6_power_23 : decode cX6_power 23 = .ok (.iconst 1, 1) := by decide +kernel
theorem dX6_power_24 : decode cX6_power 24 = .ok (.iconst 0, 1) := by decide +kernel
theorem dX6_power_25 : decode cX6_power 25 = .ok (.invokevirtual 190, 3) := by decide +kernel
theorem dX6_power_28 : decode cX6_power 28 = .ok (.iconst 0, 1) := by decide +kernel
theorem dX6_power_29 : decode cX6_power 29 = .ok (.istore_n 3, 1) := by decide +kernel
theorem dX6_power_30 : decode cX6_power 30 = .ok (.iload_n 3, 1) := by decide +kernel
theorem dX6_power_31 : decode cX6_power 31 = .ok (.iload_n 2, 1) := by decide +kernel
theorem dX6_power_32 : decode cX6_power 32 = .ok (.if_icmp .ge 19, 3) := by decide +kernel
theorem dX6_power_35 : decode cX6_power 35 = .ok (.aload_n 0, 1) := by decide +kernel
theorem dX6_power_36 : decode cX6_power 36 = .ok (.aload_n 0, 1) := by decide +kernel
theorem dX6_power_37 : decode cX6_power 37 = .ok (.getfield 17, 3) := by decide +kernel
theorem dX6_power_40 : decode cX6_power 40 = .ok (.iload_n 1, 1) := by decide +kernel
theorem dX6_power_41 : decode cX6_power 41 = .ok (.aaload, 1) := by decide +kernel
theorem dX6_power_42 : decode cX6_power 42 = .ok (.invokevirtual 210, 3) := by decide +kernel
theorem dX6_power_45 : decode cX6_power 45 = .ok (.iinc 3 1, 3) := by decide +kernel
theorem dX6_power_48 : decode cX6_power 48 = .ok (.goto (-18), 3) := by decide +kernel
theorem dX6_power_51 : decode cX6_power 51 = .ok (.aload_n 0, 1) := by decide +kernel
theorem dX6_power_52 : decode cX6_power 52 = .ok (.aload_n 0, 1) := by decide +kernel
theorem dX6_power_53 : decode cX6_power 53 = .ok (.getfield 17, 3) := by decide +kernel
theorem dX6_power_56 : decode cX6_power 56 = .ok (.iload_n 1, 1) := by decide +kernel
theorem dX6_power_57 : decode cX6_power 57 = .ok (.aaload, 1) := by decide +kernel
theorem dX6_power_58 : decode cX6_power 58 = .ok (.invokevirtual 193, 3) := by decide +kernel
theorem dX6_power_61 : decode cX6_power 61 = .ok (.ireturn, 1) := by decide +kernel
theorem dX6_mirror_0 : decode cX6_mirror 0 = .ok (.iload_n 1, 1) := by decide +kernel
theorem dX6_mirror_1 : decode cX6_mirror 1 = .ok (.invokestatic 61, 3) := by decide +kernel
theorem dX6_mirror_4 : decode cX6_mirror 4 = .ok (.aload_n 0, 1) := by decide +kernel
theorem dX6_mirror_5 : decode cX6_mirror 5 = .ok (.getfield 42, 3) := by decide +kernel
theorem dX6_mirror_8 : decode cX6_mirror 8 = .ok (.aload_n 0, 1) := by decide +kernel
theorem dX6_mirror_9 : decode cX6_mirror 9 = .ok (.getfield 17, 3) := by decide +kernel
theorem dX6_mirror_12 : decode cX6_mirror 12 = .ok (.iload_n 1, 1) := by decide +kernel
theorem dX6_mirror_13 : decode cX6_mirror 13 = .ok (.aaload, 1) := by decide +kernel
theorem dX6_mirror_14 : decode cX6_mirror 14 = .ok (.invokevirtual 214, 3) := by decide +kernel
theorem dX6_mirror_17 : decode cX6_mirror 17 = .ok (.aload_n 0, 1) := by decide +kernel
theorem dX6_mirror_18 : decode cX6_mirror 18 = .ok (.getfield 42, 3) := by decide +kernel
theorem dX6_mirror_21 : decode cX6_mirror 21 = .ok (.getfield 217, 3) := by decide +kernel
theorem dX6_mirror_24 : decode cX6_mirror 24 = .ok (.invokevirtual 221, 3) := by decide +kernel
theorem dX6_mirror_27 : decode cX6_mirror 27 = .ok (.iload_n 2, 1) := by decide +kernel
theorem dX6_mirror_28 : decode cX6_mirror 28 = .ok (.ifCond .eq 13, 3) := by decide +kernel
theorem dX6_mirror_31 : decode cX6_mirror 31 = .ok (.aload_n 0, 1) := by decide +kernel
theorem dX6_mirror_32 : decode cX6_mirror 32 = .ok (.getfield 42, 3) := by decide +kernel
theorem dX6_mirror_35 : decode cX6_mirror 35 = .ok (.getfield 224, 3) := by decide +kernel
theorem dX6_mirror_38 : decode cX6_mirror 38 = .ok (.invokevirtual 221, 3) := by decide +kernel
theorem dX6_mirror_41 : decode cX6_mirror 41 = .ok (.aload_n 0, 1) := by decide +kernel
theorem dX6_mirror_42 : decode cX6_mirror 42 = .ok (.aload_n 0, 1) := by decide +kernel
theorem dX6_mirror_43 : decode cX6_mirror 43 = .ok (.getfield 17, 3) := by decide +kernel
theorem dX6_mirror_46 : decode cX6_mirror 46 = .ok (.iload_n 1, 1) := by decide +kernel
theorem dX6_mirror_47 : decode cX6_mirror 47 = .ok (.aaload, 1) := by decide +kernel
theorem dX6_mirror_48 : decode cX6_mirror 48 = .ok (.invokevirtual 193, 3) := by decide +kernel
theorem dX6_mirror_51 : decode cX6_mirror 51 = .ok (.ireturn, 1) := by decide +kernel
theorem dX6_divideBy_0 : decode cX6_divideBy 0 = .ok (.iload_n 1, 1) := by decide +kernel
theorem dX6_divideBy_1 : decode cX6_divideBy 1 = .ok (.invokestatic 61, 3) := by decide +kernel
theorem dX6_divideBy_4 : decode cX6_divideBy 4 = .ok (.iload_n 2, 1) := by decide +kernel
theorem dX6_divideBy_5 : decode cX6_divideBy 5 = .ok (.bipush (-99), 2) := by decide +kernel
theorem dX6_divideBy_7 : decode cX6_divideBy 7 = .ok (.bipush 99, 2) := by decide +kernel
theorem dX6_divideBy_9 : decode cX6_divideBy 9 = .ok (.invokestatic 82, 3) := by decide +kernel
theorem dX6_divideBy_12 : decode cX6_divideBy 12 = .ok (.iload_n 2, 1) := by decide +kernel
theorem dX6_divideBy_13 : decode cX6_divideBy 13 = .ok (.ifCond .ne 8, 3) := by decide +kernel
theorem dX6_divideBy_16 : decode cX6_divideBy 16 = .ok (.aload_n 0, 1) := by decide +kernel
theorem dX6_divideBy_17 : decode cX6_divideBy 17 = .ok (.invokevirtual 86, 3) := by decide +kernel
theorem dX6_divideBy_20 : decode cX6_divideBy 20 = .ok (.ireturn, 1) := by decide +kernel
theorem dX6_divideBy_21 : decode cX6_divideBy 21 = .ok (.aload_n 0, 1) := by decide +kernel
theorem dX6_divideBy_22 : decode cX6_divideBy 22 = .ok (.getfield 42, 3) := by decide +kernel
theorem dX6_divideBy_25 : decode cX6_divideBy 25 = .ok (.aload_n 0, 1) := by decide +kernel
theorem dX6_divideBy_26 : decode cX6_divideBy 26 = .ok (.getfield 17, 3) := by decide +kernel
theorem dX6_divideBy_29 : decode cX6_divideBy 29 = .ok (.iload_n 1, 1) := by decide +kernel
theorem dX6_divideBy_30 : decode cX6_divideBy 30 = .ok (.aaload, 1) := by decide +kernel
theorem dX6_divideBy_31 : decode cX6_divideBy 31 = .ok (.invokevirtual 214, 3) := by decide +kernel
theorem dX6_divideBy_34 : decode cX6_divideBy 34 = .ok (.iload_n 2, 1) := by decide +kernel
theorem dX6_divideBy_35 : decode cX6_divideBy 35 = .ok (.ifCond .ge 8, 3) := by decide +kernel
theorem dX6_divideBy_38 : decode cX6_divideBy 38 = .ok (.iload_n 2, 1) := by decide +kernel
theorem dX6_divideBy_39 : decode cX6_divideBy 39 = .ok (.ineg, 1) := by decide +kernel
theorem dX6_divideBy_40 : decode cX6_divideBy 40 = .ok (.goto 4, 3) := by decide +kernel
theorem dX6_divideBy_43 : decode cX6_divideBy 43 = .ok (.iload_n 2, 1) := by decide +kernel
theorem dX6_divideBy_44 : decode cX6_divideBy 44 = .ok (.istore_n 3, 1) := by decide +kernel
theorem dX6_divideBy_45 : decode cX6_divideBy 45 = .ok (.aload_n 0, 1) := by decide +kernel
theorem dX6_divideBy_46 : decode cX6_divideBy 46 = .ok (.getfield 42, 3) := by decide +kernel
theorem dX6_divideBy_49 : decode cX6_divideBy 49 = .ok (.getfield 224, 3) := by decide +kernel
theorem dX6_divideBy_52 : decode cX6_divideBy 52 = .ok (.iload_n 3, 1) := by decide +kernel
theorem dX6_divideBy_53 : decode cX6_divideBy 53 = .ok (.invokevirtual 227, 3) := by decide +kernel
theorem dX6_divideBy_56 : decode cX6_divideBy 56 = .ok (.istore 4, 2) := by decide +kernel
theorem dX6_divideBy_58 : decode cX6_divideBy 58 = .ok (.aload_n 0, 1) := by decide +kernel
theorem dX6_divideBy_59 : decode cX6_divideBy 59 = .ok (.getfield 42, 3) := by decide +kernel
theorem dX6_divideBy_62 : decode cX6_divideBy 62 = .ok (.getfield 217, 3) := by decide +kernel
theorem dX6_divideBy_65 : decode cX6_divideBy 65 = .ok (.iload_n 3, 1) := by decide +kernel
theorem dX6_divideBy_66 : decode cX6_divideBy 66 = .ok (.invokevirtual 227, 3) := by decide +kernel
theorem dX6_divideBy_69 : decode cX6_divideBy 69 = .ok (.istore 5, 2) := by decide +kernel
theorem dX6_divideBy_71 : decode cX6_divideBy 71 = .ok (.iload 4, 2) := by decide +kernel
theorem dX6_divideBy_73 : decode cX6_divideBy 73 = .ok (.ifCond .ne 8, 3) := by decide +kernel
theorem dX6_divideBy_76 : decode cX6_divideBy 76 = .ok (.iload 5, 2) := by decide +kernel
theorem dX6_divideBy_78 : decode cX6_divideBy 78 = .ok (.ifCond .eq 8, 3) := by decide +kernel
theorem dX6_divideBy_81 : decode cX6_divideBy 81 = .ok (.aload_n 0, 1) := by decide +kernel
theorem dX6_divideBy_82 : decode cX6_divideBy 82 = .ok (.invokevirtual 86, 3) := by decide +kernel
theorem dX6_divideBy_85 : decode cX6_divideBy 85 = .ok (.ireturn, 1) := by decide +kernel
theorem dX6_divideBy_86 : decode cX6_divideBy 86 = .ok (.iload_n 2, 1) := by decide +kernel
theorem dX6_divideBy_87 : decode cX6_divideBy 87 = .ok (.ifCond .ge 23, 3) := by decide +kernel
theorem dX6_divideBy_90 : decode cX6_divideBy 90 = .ok (.aload_n 0, 1) := by decide +kernel
theorem dX6_divideBy_91 : decode cX6_divideBy 91 = .ok (.getfield 42, 3) := by decide +kernel
theorem dX6_divideBy_94 : decode cX6_divideBy 94 = .ok (.getfield 224, 3) := by decide +kernel
theorem dX6_divideBy_97 : decode cX6_divideBy 97 = .ok (.invokevirtual 221, 3) := by decide +kernel
theorem dX6_divideBy_100 : decode cX6_divideBy 100 = .ok (.aload_n 0, 1) := by decide +kernel
theorem dX6_divideBy_101 : decode cX6_divideBy 101 = .ok (.getfield 42, 3) := by decide +kernel
theorem dX6_divideBy_104 : decode cX6_divideBy 104 = .ok (.getfield 217, 3) := by decide +kernel
theorem dX6_divideBy_107 : decode cX6_divideBy 107 = .ok (.invokevirtual 221, 3) := by decide +kernel
theorem dX6_divideBy_110 : decode cX6_divideBy 110 = .ok (.aload_n 0, 1) := by decide +kernel
theorem dX6_divideBy_111 : decode cX6_divideBy 111 = .ok (.aload_n 0, 1) := by decide +kernel
theorem dX6_divideBy_112 : decode cX6_divideBy 112 = .ok (.getfield 17, 3) := by decide +kernel
theorem dX6_divideBy_115 : decode cX6_divideBy 115 = .ok (.iload_n 1, 1) := by decide +kernel
theorem dX6_divideBy_116 : decode cX6_divideBy 116 = .ok (.aaload, 1) := by decide +kernel
theorem dX6_divideBy_117 : decode cX6_divideBy 117 = .ok (.invokevirtual 193, 3) := by decide +kernel
theorem dX6_divideBy_120 : decode cX6_divideBy 120 = .ok (.ireturn, 1) := by decide +kernel
theorem dX6_pairCopy_0 : decode cX6_pairCopy 0 = .ok (.iload_n 1, 1) := by decide +kernel
theorem dX6_pairCopy_1 : decode cX6_pairCopy 1 = .ok (.invokestatic 61, 3) := by decide +kernel
theorem dX6_pairCopy_4 : decode cX6_pairCopy 4 = .ok (.iload_n 2, 1) := by decide +kernel
theorem dX6_pairCopy_5 : decode cX6_pairCopy 5 = .ok (.invokestatic 61, 3) := by decide +kernel
theorem dX6_pairCopy_8 : decode cX6_pairCopy 8 = .ok (.aload_n 0, 1) := by decide +kernel
theorem dX6_pairCopy_9 : decode cX6_pairCopy 9 = .ok (.getfield 42, 3) := by decide +kernel
theorem dX6_pairCopy_12 : decode cX6_pairCopy 12 = .ok (.aload_n 0, 1) := by decide +kernel
theorem dX6_pairCopy_13 : decode cX6_pairCopy 13 = .ok (.getfield 17, 3) := by decide +kernel
theorem dX6_pairCopy_16 : decode cX6_pairCopy 16 = .ok (.iload_n 1, 1) := by decide +kernel
theorem dX6_pairCopy_17 : decode cX6_pairCopy 17 = .ok (.aaload, 1) := by decide +kernel
theorem dX6_pairCopy_18 : decode cX6_pairCopy 18 = .ok (.invokevirtual 214, 3) := by decide +kernel
theorem dX6_pairCopy_21 : decode cX6_pairCopy 21 = .ok (.aload_n 0, 1) := by decide +kernel
theorem dX6_pairCopy_22 : decode cX6_pairCopy 22 = .ok (.aload_n 0, 1) := by decide +kernel
theorem dX6_pairCopy_23 : decode cX6_pairCopy 23 = .ok (.getfield 17, 3) := by decide +kernel
theorem dX6_pairCopy_26 : decode cX6_pairCopy 26 = .ok (.iload_n 2, 1) := by decide +kernel
theorem dX6_pairCopy_27 : decode cX6_pairCopy 27 = .ok (.aaload, 1) := by decide +kernel
theorem dX6_pairCopy_28 : decode cX6_pairCopy 28 = .ok (.invokevirtual 193, 3) := by decide +kernel
theorem dX6_pairCopy_31 : decode cX6_pairCopy 31 = .ok (.ireturn, 1) := by decide +kernel
theorem dX6_pairBase_0 : decode cX6_pairBase 0 = .ok (.iload_n 1, 1) := by decide +kernel
theorem dX6_pairBase_1 : decode cX6_pairBase 1 = .ok (.invokestatic 61, 3) := by decide +kernel
theorem dX6_pairBase_4 : decode cX6_pairBase 4 = .ok (.aload_n 0, 1) := by decide +kernel
theorem dX6_pairBase_5 : decode cX6_pairBase 5 = .ok (.getfield 17, 3) := by decide +kernel
theorem dX6_pairBase_8 : decode cX6_pairBase 8 = .ok (.iload_n 1, 1) := by decide +kernel
theorem dX6_pairBase_9 : decode cX6_pairBase 9 = .ok (.aaload, 1) := by decide +kernel
theorem dX6_pairBase_10 : decode cX6_pairBase 10 = .ok (.getfield 205, 3) := by decide +kernel
theorem dX6_pairBase_13 : decode cX6_pairBase 13 = .ok (.ireturn, 1) := by decide +kernel
theorem dX6_pairText_0 : decode cX6_pairText 0 = .ok (.iload_n 1, 1) := by decide +kernel
theorem dX6_pairText_1 : decode cX6_pairText 1 = .ok (.invokestatic 61, 3) := by decide +kernel
theorem dX6_pairText_4 : decode cX6_pairText 4 = .ok (.aload_n 0, 1) := by decide +kernel
theorem dX6_pairText_5 : decode cX6_pairText 5 = .ok (.getfield 37, 3) := by decide +kernel
theorem dX6_pairText_8 : decode cX6_pairText 8 = .ok (.aload_n 0, 1) := by decide +kernel
theorem dX6_pairText_9 : decode cX6_pairText 9 = .ok (.getfield 17, 3) := by decide +kernel
theorem dX6_pairText_12 : decode cX6_pairText 12 = .ok (.iload_n 1, 1) := by decide +kernel
theorem dX6_pairText_13 : decode cX6_pairText 13 = .ok (.aaload, 1) := by decide +kernel
theorem dX6_pairText_14 : decode cX6_pairText 14 = .ok (.iload_n 2, 1) := by decide +kernel
theorem dX6_pairText_15 : decode cX6_pairText 15 = .ok (.invokevirtual 230, 3) := by decide +kernel
theorem dX6_pairText_18 : decode cX6_pairText 18 = .ok (.bipush 10, 2) := by decide +kernel
theorem dX6_pairText_20 : decode cX6_pairText 20 = .ok (.invokevirtual 102, 3) := by decide +kernel
theorem dX6_pairText_23 : decode cX6_pairText 23 = .ok (.areturn, 1) := by decide +kernel
theorem dX6_pairNorm_0 : decode cX6_pairNorm 0 = .ok (.iload_n 1, 1) := by decide +kernel
theorem dX6_pairNorm_1 : decode cX6_pairNorm 1 = .ok (.invokestatic 61, 3) := by decide +kernel
theorem dX6_pairNorm_4 : decode cX6_pairNorm 4 = .ok (.aload_n 0, 1) := by decide +kernel
theorem dX6_pairNorm_5 : decode cX6_pairNorm 5 = .ok (.getfield 37, 3) := by decide +kernel
theorem dX6_pairNorm_8 : decode cX6_pairNorm 8 = .ok (.aload_n 0, 1) := by decide +kernel
theorem dX6_pairNorm_9 : decode cX6_pairNorm 9 = .ok (.getfield 37, 3) := by decide +kernel
theorem dX6_pairNorm_12 : decode cX6_pairNorm 12 = .ok (.aload_n 0, 1) := by decide +kernel
theorem dX6_pairNorm_13 : decode cX6_pairNorm 13 = .ok (.getfield 17, 3) := by decide +kernel
theorem dX6_pairNorm_16 : decode cX6_pairNorm 16 = .ok (.iload_n 1, 1) := by decide +kernel
theorem dX6_pairNorm_17 : decode cX6_pairNorm 17 = .ok (.aaload, 1) := by decide +kernel
theorem dX6_pairNorm_18 : decode cX6_pairNorm 18 = .ok (.getfield 205, 3) := by decide +kernel
theorem dX6_pairNorm_21 : decode cX6_pairNorm 21 = .ok (.aload_n 0, 1) := by decide +kernel
theorem dX6_pairNorm_22 : decode cX6_pairNorm 22 = .ok (.getfield 17, 3) := by decide +kernel
theorem dX6_pairNorm_25 : decode cX6_pairNorm 25 = .ok (.iload_n 1, 1) := by decide +kernel
theorem dX6_pairNorm_26 : decode cX6_pairNorm 26 = .ok (.aaload, 1) := by decide +kernel
theorem dX6_pairNorm_27 : decode cX6_pairNorm 27 = .ok (.getfield 224, 3) := by decide +kernel
theorem dX6_pairNorm_30 : decode cX6_pairNorm 30 = .ok (.aload_n 0, 1) := by decide +kernel
theorem dX6_pairNorm_31 : decode cX6_pairNorm 31 = .ok (.getfield 17, 3) := by decide +kernel
theorem dX6_pairNorm_34 : decode cX6_pairNorm 34 = .ok (.iload_n 1, 1) := by decide +kernel
theorem dX6_pairNorm_35 : decode cX6_pairNorm 35 = .ok (.aaload, 1) := by decide +kernel
theorem dX6_pairNorm_36 : decode cX6_pairNorm 36 = .ok (.getfield 217, 3) := by decide +kernel
theorem dX6_pairNorm_39 : decode cX6_pairNorm 39 = .ok (.invokevirtual 234, 3) := by decide +kernel
theorem dX6_pairNorm_42 : decode cX6_pairNorm 42 = .ok (.bipush 10, 2) := by decide +kernel
theorem dX6_pairNorm_44 : decode cX6_pairNorm 44 = .ok (.invokevirtual 102, 3) := by decide +kernel
theorem dX6_pairNorm_47 : decode cX6_pairNorm 47 = .ok (.areturn, 1) := by decide +kernel
theorem dX6_pairBits_0 : decode cX6_pairBits 0 = .ok (.iload_n 1, 1) := by decide +kernel
theorem dX6_pairBits_1 : decode cX6_pairBits 1 = .ok (.invokestatic 61, 3) := by decide +kernel
theorem dX6_pairBits_4 : decode cX6_pairBits 4 = .ok (.iload_n 3, 1) := by decide +kernel
theorem dX6_pairBits_5 : decode cX6_pairBits 5 = .ok (.iconst 0, 1) := by decide +kernel
theorem dX6_pairBits_6 : decode cX6_pairBits 6 = .ok (.iconst 2, 1) := by decide +kernel
theorem dX6_pairBits_7 : decode cX6_pairBits 7 = .ok (.invokestatic 82, 3) := by decide +kernel
theorem dX6_pairBits_10 : decode cX6_pairBits 10 = .ok (.aload_n 0, 1) := by decide +kernel
theorem dX6_pairBits_11 : decode cX6_pairBits 11 = .ok (.getfield 17, 3) := by decide +kernel
theorem dX6_pairBits_14 : decode cX6_pairBits 14 = .ok (.iload_n 1, 1) := by decide +kernel
theorem dX6_pairBits_15 : decode cX6_pairBits 15 = .ok (.aaload, 1) := by decide +kernel
theorem dX6_pairBits_16 : decode cX6_pairBits 16 = .ok (.iload_n 2, 1) := by decide +kernel
theorem dX6_pairBits_17 : decode cX6_pairBits 17 = .ok (.invokevirtual 230, 3) := by decide +kernel
theorem dX6_pairBits_20 : decode cX6_pairBits 20 = .ok (.iload_n 3, 1) := by decide +kernel
theorem dX6_pairBits_21 : decode cX6_pairBits 21 = .ok (.invokestatic 109, 3) := by decide +kernel
theorem dX6_pairBits_24 : decode cX6_pairBits 24 = .ok (.ireturn, 1) := by decide +kernel
theorem dX6_rank_0 : decode cX6_rank 0 = .ok (.iload_n 1, 1) := by decide +kernel
theorem dX6_rank_1 : decode cX6_rank 1 = .ok (.invokestatic 61, 3) := by decide +kernel
theorem dX6_rank_4 : decode cX6_rank 4 = .ok (.aload_n 0, 1) := by decide +kernel
theorem dX6_rank_5 : decode cX6_rank 5 = .ok (.getfield 17, 3) := by decide +kernel
theorem dX6_rank_8 : decode cX6_rank 8 = .ok (.iload_n 1, 1) := by decide +kernel
theorem dX6_rank_9 : decode cX6_rank 9 = .ok (.aaload, 1) := by decide +kernel
theorem dX6_rank_10 : decode cX6_rank 10 = .ok (.astore_n 2, 1) := by decide +kernel
theorem dX6_rank_11 : decode cX6_rank 11 = .ok (.aload_n 0, 1) := by decide +kernel
theorem dX6_rank_12 : decode cX6_rank 12 = .ok (.getfield 37, 3) := by decide +kernel
theorem dX6_rank_15 : decode cX6_rank 15 = .ok (.aload_n 2, 1) := by decide +kernel
theorem dX6_rank_16 : decode cX6_rank 16 = .ok (.getfield 205, 3) := by decide +kernel
theorem dX6_rank_19 : decode cX6_rank 19 = .ok (.aload_n 2, 1) := by decide +kernel
theorem dX6_rank_20 : decode cX6_rank 20 = .ok (.getfield 224, 3) := by decide +kernel
theorem dX6_rank_23 : decode cX6_rank 23 = .ok (.aload_n 2, 1) := by decide +kernel
theorem dX6_rank_24 : decode cX6_rank 24 = .ok (.getfield 217, 3) := by decide +kernel
theorem dX6_rank_27 : decode cX6_rank 27 = .ok (.invokevirtual 234, 3) := by decide +kernel
theorem dX6_rank_30 : decode cX6_rank 30 = .ok (.invokevirtual 238, 3) := by decide +kernel
theorem dX6_rank_33 : decode cX6_rank 33 = .ok (.ifCond .ne 5, 3) := by decide +kernel
theorem dX6_rank_36 : decode cX6_rank 36 = .ok (.iconst (-1), 1) := by decide +kernel
theorem dX6_rank_37 : decode cX6_rank 37 = .ok (.ireturn, 1) := by decide +kernel
theorem dX6_rank_38 : decode cX6_rank 38 = .ok (.aload_n 0, 1) := by decide +kernel
theorem dX6_rank_39 : decode cX6_rank 39 = .ok (.aload_n 0, 1) := by decide +kernel
theorem dX6_rank_40 : decode cX6_rank 40 = .ok (.getfield 49, 3) := by decide +kernel
theorem dX6_rank_43 : decode cX6_rank 43 = .ok (.aload_n 2, 1) := by decide +kernel
theorem dX6_rank_44 : decode cX6_rank 44 = .ok (.getfield 205, 3) := by decide +kernel
theorem dX6_rank_47 : decode cX6_rank 47 = .ok (.invokevirtual 201, 3) := by decide +kernel
theorem dX6_rank_50 : decode cX6_rank 50 = .ok (.aload_n 0, 1) := by decide +kernel
theorem dX6_rank_51 : decode cX6_rank 51 = .ok (.getfield 42, 3) := by decide +kernel
theorem dX6_rank_54 : decode cX6_rank 54 = .ok (.aload_n 2, 1) := by decide +kernel
theorem dX6_rank_55 : decode cX6_rank 55 = .ok (.getfield 205, 3) := by decide +kernel
theorem dX6_rank_58 : decode cX6_rank 58 = .ok (.iconst 1, 1) := by decide +kernel
theorem dX6_rank_59 : decode cX6_rank 59 = .ok (.iconst 0, 1) := by decide +kernel
theorem dX6_rank_60 : decode cX6_rank 60 = .ok (.invokevirtual 190, 3) := by decide +kernel
theorem dX6_rank_63 : decode cX6_rank 63 = .ok (.iconst 0, 1) := by decide +kernel
theorem dX6_rank_64 : decode cX6_rank 64 = .ok (.istore_n 3, 1) := by decide +kernel
theorem dX6_rank_65 : decode cX6_rank 65 = .ok (.iload_n 3, 1) := by decide +kernel
theorem dX6_rank_66 : decode cX6_rank 66 = .ok (.bipush 42, 2) := by decide +kernel
theorem dX6_rank_68 : decode cX6_rank 68 = .ok (.if_icmp .gt 53, 3) := by decide +kernel
theorem dX6_rank_71 : decode cX6_rank 71 = .ok (.aload_n 0, 1) := by decide +kernel
theorem dX6_rank_72 : decode cX6_rank 72 = .ok (.getfield 42, 3) := by decide +kernel
theorem dX6_rank_75 : decode cX6_rank 75 = .ok (.getfield 224, 3) := by decide +kernel
theorem dX6_rank_78 : decode cX6_rank 78 = .ok (.aload_n 2, 1) := by decide +kernel
theorem dX6_rank_79 : decode cX6_rank 79 = .ok (.getfield 224, 3) := by decide +kernel
theorem dX6_rank_82 : decode cX6_rank 82 = .ok (.invokevirtual 241, 3) := by decide +kernel
theorem dX6_rank_85 : decode cX6_rank 85 = .ok (.ifCond .ne 22, 3) := by decide +kernel
theorem dX6_rank_88 : decode cX6_rank 88 = .ok (.aload_n 0, 1) := by decide +kernel
theorem dX6_rank_89 : decode cX6_rank 89 = .ok (.getfield 42, 3) := by decide +kernel
theorem dX6_rank_92 : decode cX6_rank 92 = .ok (.getfield 217, 3) := by decide +kernel
theorem dX6_rank_95 : decode cX6_rank 95 = .ok (.aload_n 2, 1) := by decide +kernel
theorem dX6_rank_96 : decode cX6_rank 96 = .ok (.getfield 217, 3) := by decide +kernel
theorem dX6_rank_99 : decode cX6_rank 99 = .ok (.invokevirtual 241, 3) := by decide +kernel
theorem dX6_rank_102 : decode cX6_rank 102 = .ok (.ifCond .ne 5, 3) := by decide +kernel
theorem dX6_rank_105 : decode cX6_rank 105 = .ok (.iload_n 3, 1) := by decide +kernel
theorem dX6_rank_106 : decode cX6_rank 106 = .ok (.ireturn, 1) := by decide +kernel
theorem dX6_rank_107 : decode cX6_rank 107 = .ok (.aload_n 0, 1) := by decide +kernel
theorem dX6_rank_108 : decode cX6_rank 108 = .ok (.aload_n 0, 1) := by decide +kernel
theorem dX6_rank_109 : decode cX6_rank 109 = .ok (.getfield 49, 3) := by decide +kernel
theorem dX6_rank_112 : decode cX6_rank 112 = .ok (.invokevirtual 210, 3) := by decide +kernel
theorem dX6_rank_115 : decode cX6_rank 115 = .ok (.iinc 3 1, 3) := by decide +kernel
theorem dX6_rank_118 : decode cX6_rank 118 = .ok (.goto (-53), 3) := by decide +kernel
theorem dX6_rank_121 : decode cX6_rank 121 = .ok (.iconst (-1), 1) := by decide +kernel
theorem dX6_rank_122 : decode cX6_rank 122 = .ok (.ireturn, 1) := by decide +kernel
theorem dX6_order_0 : decode cX6_order 0 = .ok (.iload_n 1, 1) := by decide +kernel
theorem dX6_order_1 : decode cX6_order 1 = .ok (.invokestatic 61, 3) := by decide +kernel
theorem dX6_order_4 : decode cX6_order 4 = .ok (.iload_n 2, 1) := by decide +kernel
theorem dX6_order_5 : decode cX6_order 5 = .ok (.invokestatic 61, 3) := by decide +kernel
theorem dX6_order_8 : decode cX6_order 8 = .ok (.aload_n 0, 1) := by decide +kernel
theorem dX6_order_9 : decode cX6_order 9 = .ok (.getfield 17, 3) := by decide +kernel
theorem dX6_order_12 : decode cX6_order 12 = .ok (.iload_n 1, 1) := by decide +kernel
theorem dX6_order_13 : decode cX6_order 13 = .ok (.aaload, 1) := by decide +kernel
theorem dX6_order_14 : decode cX6_order 14 = .ok (.iload_n 3, 1) := by decide +kernel
theorem dX6_order_15 : decode cX6_order 15 = .ok (.invokevirtual 230, 3) := by decide +kernel
theorem dX6_order_18 : decode cX6_order 18 = .ok (.aload_n 0, 1) := by decide +kernel
theorem dX6_order_19 : decode cX6_order 19 = .ok (.getfield 17, 3) := by decide +kernel
theorem dX6_order_22 : decode cX6_order 22 = .ok (.iload_n 2, 1) := by decide +kernel
theorem dX6_order_23 : decode cX6_order 23 = .ok (.aaload, 1) := by decide +kernel
theorem dX6_order_24 : decode cX6_order 24 = .ok (.iload_n 3, 1) := by decide +kernel
theorem dX6_order_25 : decode cX6_order 25 = .ok (.invokevirtual 230, 3) := by decide +kernel
theorem dX6_order_28 : decode cX6_order 28 = .ok (.invokevirtual 245, 3) := by decide +kernel
theorem dX6_order_31 : decode cX6_order 31 = .ok (.ireturn, 1) := by decide +kernel
theorem dX6_isSame_0 : decode cX6_isSame 0 = .ok (.iload_n 1, 1) := by decide +kernel
theorem dX6_isSame_1 : decode cX6_isSame 1 = .ok (.invokestatic 61, 3) := by decide +kernel
theorem dX6_isSame_4 : decode cX6_isSame 4 = .ok (.iload_n 2, 1) := by decide +kernel
theorem dX6_isSame_5 : decode cX6_isSame 5 = .ok (.invokestatic 61, 3) := by decide +kernel
theorem dX6_isSame_8 : decode cX6_isSame 8 = .ok (.aload_n 0, 1) := by decide +kernel
theorem dX6_isSame_9 : decode cX6_isSame 9 = .ok (.getfield 17, 3) := by decide +kernel
theorem dX6_isSame_12 : decode cX6_isSame 12 = .ok (.iload_n 1, 1) := by decide +kernel
theorem dX6_isSame_13 : decode cX6_isSame 13 = .ok (.aaload, 1) := by decide +kernel
theorem dX6_isSame_14 : decode cX6_isSame 14 = .ok (.aload_n 0, 1) := by decide +kernel
theorem dX6_isSame_15 : decode cX6_isSame 15 = .ok (.getfield 17, 3) := by decide +kernel
theorem dX6_isSame_18 : decode cX6_isSame 18 = .ok (.iload_n 2, 1) := by decide +kernel
theorem dX6_isSame_19 : decode cX6_isSame 19 = .ok (.aaload, 1) := by decide +kernel
theorem dX6_isSame_20 : decode cX6_isSame 20 = .ok (.invokevirtual 248, 3) := by decide +kernel
theorem dX6_isSame_23 : decode cX6_isSame 23 = .ok (.ireturn, 1) := by decide +kernel
theorem dX6_extreme_0 : decode cX6_extreme 0 = .ok (.aload_n 0, 1) := by decide +kernel
theorem dX6_extreme_1 : decode cX6_extreme 1 = .ok (.getfield 17, 3) := by decide +kernel
theorem dX6_extreme_4 : decode cX6_extreme 4 = .ok (.iconst 0, 1) := by decide +kernel
theorem dX6_extreme_5 : decode cX6_extreme 5 = .ok (.aaload, 1) := by decide +kernel
theorem dX6_extreme_6 : decode cX6_extreme 6 = .ok (.iload_n 1, 1) := by decide +kernel
theorem dX6_extreme_7 : decode cX6_extreme 7 = .ok (.invokevirtual 230, 3) := by decide +kernel
theorem dX6_extreme_10 : decode cX6_extreme 10 = .ok (.astore_n 3, 1) := by decide +kernel
theorem dX6_extreme_11 : decode cX6_extreme 11 = .ok (.iconst 1, 1) := by decide +kernel
theorem dX6_extreme_12 : decode cX6_extreme 12 = .ok (.istore 4, 2) := by decide +kernel
theorem dX6_extreme_14 : decode cX6_extreme 14 = .ok (.iload 4, 2) := by decide +kernel
theorem dX6_extreme_16 : decode cX6_extreme 16 = .ok (.iconst 3, 1) := by decide +kernel
theorem dX6_extreme_17 : decode cX6_extreme 17 = .ok (.if_icmp .ge 50, 3) := by decide +kernel
theorem dX6_extreme_20 : decode cX6_extreme 20 = .ok (.aload_n 0, 1) := by decide +kernel
theorem dX6_extreme_21 : decode cX6_extreme 21 = .ok (.getfield 17, 3) := by decide +kernel
theorem dX6_extreme_24 : decode cX6_extreme 24 = .ok (.iload 4, 2) := by decide +kernel
theorem dX6_extreme_26 : decode cX6_extreme 26 = .ok (.aaload, 1) := by decide +kernel
theorem dX6_extreme_27 : decode cX6_extreme 27 = .ok (.iload_n 1, 1) := by decide +kernel
theorem dX6_extreme_28 : decode cX6_extreme 28 = .ok (.invokevirtual 230, 3) := by decide +kernel
theorem dX6_extreme_31 : decode cX6_extreme 31 = .ok (.astore 5, 2) := by decide +kernel
theorem dX6_extreme_33 : decode cX6_extreme 33 = .ok (.aload 5, 2) := by decide +kernel
theorem dX6_extreme_35 : decode cX6_extreme 35 = .ok (.aload_n 3, 1) := by decide +kernel
theorem dX6_extreme_36 : decode cX6_extreme 36 = .ok (.invokevirtual 245, 3) := by decide +kernel
theorem dX6_extreme_39 : decode cX6_extreme 39 = .ok (.istore 6, 2) := by decide +kernel
theorem dX6_extreme_41 : decode cX6_extreme 41 = .ok (.iload_n 2, 1) := by decide +kernel
theorem dX6_extreme_42 : decode cX6_extreme 42 = .ok (.ifCond .eq 11, 3) := by decide +kernel
theorem dX6_extreme_45 : decode cX6_extreme 45 = .ok (.iload 6, 2) := by decide +kernel
theorem dX6_extreme_47 : decode cX6_extreme 47 = .ok (.ifCond .le 14, 3) := by decide +kernel
theorem dX6_extreme_50 : decode cX6_extreme 50 = .ok (.goto 8, 3) := by decide +kernel
theorem dX6_extreme_53 : decode cX6_extreme 53 = .ok (.iload 6, 2) := by decide +kernel
theorem dX6_extreme_55 : decode cX6_extreme 55 = .ok (.ifCond .ge 6, 3) := by decide +kernel
theorem dX6_extreme_58 : decode cX6_extreme 58 = .ok (.aload 5, 2) := by decide +kernel
theorem dX6_extreme_60 : decode cX6_extreme 60 = .ok (.astore_n 3, 1) := by decide +kernel
theorem dX6_extreme_61 : decode cX6_extreme 61 = .ok (.iinc 4 1, 3) := by decide +kernel
theorem dX6_extreme_64 : decode cX6_extreme 64 = .ok (.goto (-50), 3) := by decide +kernel
theorem dX6_extreme_67 : decode cX6_extreme 67 = .ok (.aload_n 0, 1) := by decide +kernel
theorem dX6_extreme_68 : decode cX6_extreme 68 = .ok (.getfield 37, 3) := by decide +kernel
theorem dX6_extreme_71 : decode cX6_extreme 71 = .ok (.aload_n 3, 1) := by decide +kernel
theorem dX6_extreme_72 : decode cX6_extreme 72 = .ok (.bipush 10, 2) := by decide +kernel
theorem dX6_extreme_74 : decode cX6_extreme 74 = .ok (.invokevirtual 102, 3) := by decide +kernel
theorem dX6_extreme_77 : decode cX6_extreme 77 = .ok (.areturn, 1) := by decide +kernel
theorem dX6_split_0 : decode cX6_split 0 = .ok (.iload_n 1, 1) := by decide +kernel
theorem dX6_split_1 : decode cX6_split 1 = .ok (.invokestatic 61, 3) := by decide +kernel
theorem dX6_split_4 : decode cX6_split 4 = .ok (.iload_n 2, 1) := by decide +kernel
theorem dX6_split_5 : decode cX6_split 5 = .ok (.iconst 5, 1) := by decide +kernel
theorem dX6_split_6 : decode cX6_split 6 = .ok (.sipush 997, 3) := by decide +kernel
theorem dX6_split_9 : decode cX6_split 9 = .ok (.invokestatic 82, 3) := by decide +kernel
theorem dX6_split_12 : decode cX6_split 12 = .ok (.iload_n 2, 1) := by decide +kernel
theorem dX6_split_13 : decode cX6_split 13 = .ok (.invokestatic 252, 3) := by decide +kernel
theorem dX6_split_16 : decode cX6_split 16 = .ok (.ifCond .ne 8, 3) := by decide +kernel
theorem dX6_split_19 : decode cX6_split 19 = .ok (.aload_n 0, 1) := by decide +kernel
theorem dX6_split_20 : decode cX6_split 20 = .ok (.invokevirtual 86, 3) := by decide +kernel
theorem dX6_split_23 : decode cX6_split 23 = .ok (.ireturn, 1) := by decide +kernel
theorem dX6_split_24 : decode cX6_split 24 = .ok (.aload_n 0, 1) := by decide +kernel
theorem dX6_split_25 : decode cX6_split 25 = .ok (.getfield 23, 3) := by decide +kernel
theorem dX6_split_28 : decode cX6_split 28 = .ok (.iload_n 1, 1) := by decide +kernel
theorem dX6_split_29 : decode cX6_split 29 = .ok (.aaload, 1) := by decide +kernel
theorem dX6_split_30 : decode cX6_split 30 = .ok (.iload_n 2, 1) := by decide +kernel
theorem dX6_split_31 : decode cX6_split 31 = .ok (.invokevirtual 255, 3) := by decide +kernel
theorem dX6_split_34 : decode cX6_split 34 = .ok (.aload_n 0, 1) := by decide +kernel
theorem dX6_split_35 : decode cX6_split 35 = .ok (.dup, 1) := by decide +kernel
theorem dX6_split_36 : decode cX6_split 36 = .ok (.getfield 258, 3) := by decide +kernel
theorem dX6_split_39 : decode cX6_split 39 = .ok (.iconst 1, 1) := by decide +kernel
theorem dX6_split_40 : decode cX6_split 40 = .ok (.iadd, 1) := by decide +kernel
theorem dX6_split_41 : decode cX6_split 41 = .ok (.putfield 258, 3) := by decide +kernel
theorem dX6_split_44 : decode cX6_split 44 = .ok (.aload_n 0, 1) := by decide +kernel
theorem dX6_split_45 : decode cX6_split 45 = .ok (.getfield 23, 3) := by decide +kernel
theorem dX6_split_48 : decode cX6_split 48 = .ok (.iload_n 1, 1) := by decide +kernel
theorem dX6_split_49 : decode cX6_split 49 = .ok (.aaload, 1) := by decide +kernel
theorem dX6_split_50 : decode cX6_split 50 = .ok (.getfield 261, 3) := by decide +kernel
theorem dX6_split_53 : decode cX6_split 53 = .ok (.ireturn, 1) := by decide +kernel
theorem dX6_euclid_0 : decode cX6_euclid 0 = .ok (.iload_n 1, 1) := by decide +kernel
theorem dX6_euclid_1 : decode cX6_euclid 1 = .ok (.invokestatic 61, 3) := by decide +kernel
theorem dX6_euclid_4 : decode cX6_euclid 4 = .ok (.aload_n 0, 1) := by decide +kernel
theorem dX6_euclid_5 : decode cX6_euclid 5 = .ok (.getfield 23, 3) := by decide +kernel
theorem dX6_euclid_8 : decode cX6_euclid 8 = .ok (.iload_n 1, 1) := by decide +kernel
theorem dX6_euclid_9 : decode cX6_euclid 9 = .ok (.aaload, 1) := by decide +kernel
theorem dX6_euclid_10 : decode cX6_euclid 10 = .ok (.getfield 264, 3) := by decide +kernel
theorem dX6_euclid_13 : decode cX6_euclid 13 = .ok (.ifCond .ne 8, 3) := by decide +kernel
theorem dX6_euclid_16 : decode cX6_euclid 16 = .ok (.aload_n 0, 1) := by decide +kernel
theorem dX6_euclid_17 : decode cX6_euclid 17 = .ok (.invokevirtual 86, 3) := by decide +kernel
theorem dX6_euclid_20 : decode cX6_euclid 20 = .ok (.ireturn, 1) := by decide +kernel
theorem dX6_euclid_21 : decode cX6_euclid 21 = .ok (.aload_n 0, 1) := by decide +kernel
theorem dX6_euclid_22 : decode cX6_euclid 22 = .ok (.getfield 23, 3) := by decide +kernel
theorem dX6_euclid_25 : decode cX6_euclid 25 = .ok (.iload_n 1, 1) := by decide +kernel
theorem dX6_euclid_26 : decode cX6_euclid 26 = .ok (.aaload, 1) := by decide +kernel
theorem dX6_euclid_27 : decode cX6_euclid 27 = .ok (.invokevirtual 267, 3) := by decide +kernel
theorem dX6_euclid_30 : decode cX6_euclid 30 = .ok (.aload_n 0, 1) := by decide +kernel
theorem dX6_euclid_31 : decode cX6_euclid 31 = .ok (.dup, 1) := by decide +kernel
theorem dX6_euclid_32 : decode cX6_euclid 32 = .ok (.getfield 258, 3) := by decide +kernel
theorem dX6_euclid_35 : decode cX6_euclid 35 = .ok (.iconst 1, 1) := by decide +kernel
theorem dX6_euclid_36 : decode cX6_euclid 36 = .ok (.iadd, 1) := by decide +kernel
theorem dX6_euclid_37 : decode cX6_euclid 37 = .ok (.putfield 258, 3) := by decide +kernel
theorem dX6_euclid_40 : decode cX6_euclid 40 = .ok (.aload_n 0, 1) := by decide +kernel
theorem dX6_euclid_41 : decode cX6_euclid 41 = .ok (.getfield 23, 3) := by decide +kernel
theorem dX6_euclid_44 : decode cX6_euclid 44 = .ok (.iload_n 1, 1) := by decide +kernel
theorem dX6_euclid_45 : decode cX6_euclid 45 = .ok (.aaload, 1) := by decide +kernel
theorem dX6_euclid_46 : decode cX6_euclid 46 = .ok (.getfield 264, 3) := by decide +kernel
theorem dX6_euclid_49 : decode cX6_euclid 49 = .ok (.ireturn, 1) := by decide +kernel
theorem dX6_settle_0 : decode cX6_settle 0 = .ok (.iload_n 1, 1) := by decide +kernel
theorem dX6_settle_1 : decode cX6_settle 1 = .ok (.invokestatic 61, 3) := by decide +kernel
theorem dX6_settle_4 : decode cX6_settle 4 = .ok (.aload_n 0, 1) := by decide +kernel
theorem dX6_settle_5 : decode cX6_settle 5 = .ok (.dup, 1) := by decide +kernel
theorem dX6_settle_6 : decode cX6_settle 6 = .ok (.getfield 258, 3) := by decide +kernel
theorem dX6_settle_9 : decode cX6_settle 9 = .ok (.iconst 1, 1) := by decide +kernel
theorem dX6_settle_10 : decode cX6_settle 10 = .ok (.iadd, 1) := by decide +kernel
theorem dX6_settle_11 : decode cX6_settle 11 = .ok (.putfield 258, 3) := by decide +kernel
theorem dX6_settle_14 : decode cX6_settle 14 = .ok (.aload_n 0, 1) := by decide +kernel
theorem dX6_settle_15 : decode cX6_settle 15 = .ok (.getfield 23, 3) := by decide +kernel
theorem dX6_settle_18 : decode cX6_settle 18 = .ok (.iload_n 1, 1) := by decide +kernel
theorem dX6_settle_19 : decode cX6_settle 19 = .ok (.aaload, 1) := by decide +kernel
theorem dX6_settle_20 : decode cX6_settle 20 = .ok (.invokevirtual 270, 3) := by decide +kernel
theorem dX6_settle_23 : decode cX6_settle 23 = .ok (.ireturn, 1) := by decide +kernel
theorem dX6_splitNumber_0 : decode cX6_splitNumber 0 = .ok (.iload_n 1, 1) := by decide +kernel
theorem dX6_splitNumber_1 : decode cX6_splitNumber 1 = .ok (.invokestatic 61, 3) := by decide +kernel
theorem dX6_splitNumber_4 : decode cX6_splitNumber 4 = .ok (.iload_n 2, 1) := by decide +kernel
theorem dX6_splitNumber_5 : decode cX6_splitNumber 5 = .ok (.iconst 0, 1) := by decide +kernel
theorem dX6_splitNumber_6 : decode cX6_splitNumber 6 = .ok (.bipush 7, 2) := by decide +kernel
theorem dX6_splitNumber_8 : decode cX6_splitNumber 8 = .ok (.invokestatic 82, 3) := by decide +kernel
theorem dX6_splitNumber_11 : decode cX6_splitNumber 11 = .ok (.aload_n 0, 1) := by decide +kernel
theorem dX6_splitNumber_12 : decode cX6_splitNumber 12 = .ok (.getfield 23, 3) := by decide +kernel
theorem dX6_splitNumber_15 : decode cX6_splitNumber 15 = .ok (.iload_n 1, 1) := by decide +kernel
theorem dX6_splitNumber_16 : decode cX6_splitNumber 16 = .ok (.aaload, 1) := by decide +kernel
theorem dX6_splitNumber_17 : decode cX6_splitNumber 17 = .ok (.iload_n 2, 1) := by decide +kernel
theorem dX6_splitNumber_18 : decode cX6_splitNumber 18 = .ok (.invokevirtual 273, 3) := by decide +kernel
theorem dX6_splitNumber_21 : decode cX6_splitNumber 21 = .ok (.ireturn, 1) := by decide +kernel
theorem dX6_way_0 : decode cX6_way 0 = .ok (.iload_n 1, 1) := by decide +kernel
theorem dX6_way_1 : decode cX6_way 1 = .ok (.invokestatic 61, 3) := by decide +kernel
theorem dX6_way_4 : decode cX6_way 4 = .ok (.aload_n 0, 1) := by decide +kernel
theorem dX6_way_5 : decode cX6_way 5 = .ok (.getfield 53, 3) := by decide +kernel
theorem dX6_way_8 : decode cX6_way 8 = .ok (.aload_n 0, 1) := by decide +kernel
theorem dX6_way_9 : decode cX6_way 9 = .ok (.getfield 23, 3) := by decide +kernel
theorem dX6_way_12 : decode cX6_way 12 = .ok (.iload_n 1, 1) := by decide +kernel
theorem dX6_way_13 : decode cX6_way 13 = .ok (.aaload, 1) := by decide +kernel
theorem dX6_way_14 : decode cX6_way 14 = .ok (.invokestatic 276, 3) := by decide +kernel
theorem dX6_way_17 : decode cX6_way 17 = .ok (.new 158, 3) := by decide +kernel
theorem dX6_way_20 : decode cX6_way 20 = .ok (.dup, 1) := by decide +kernel
theorem dX6_way_21 : decode cX6_way 21 = .ok (.invokespecial 160, 3) := by decide +kernel
theorem dX6_way_24 : decode cX6_way 24 = .ok (.astore_n 2, 1) := by decide +kernel
theorem dX6_way_25 : decode cX6_way 25 = .ok (.aload_n 2, 1) := by decide +kernel
theorem dX6_way_26 : decode cX6_way 26 = .ok (.aload_n 0, 1) := by decide +kernel
theorem dX6_way_27 : decode cX6_way 27 = .ok (.getfield 53, 3) := by decide +kernel
theorem dX6_way_30 : decode cX6_way 30 = .ok (.getfield 280, 3) := by decide +kernel
theorem dX6_way_33 : decode cX6_way 33 = .ok (.invokevirtual 164, 3) := by decide +kernel
theorem dX6_way_36 : decode cX6_way 36 = .ok (.bipush 32, 2) := by decide +kernel
theorem dX6_way_38 : decode cX6_way 38 = .ok (.invokevirtual 168, 3) := by decide +kernel
theorem dX6_way_41 : decode cX6_way 41 = .ok (.aload_n 0, 1) := by decide +kernel
theorem dX6_way_42 : decode cX6_way 42 = .ok (.getfield 53, 3) := by decide +kernel
theorem dX6_way_45 : decode cX6_way 45 = .ok (.getfield 264, 3) := by decide +kernel
theorem dX6_way_48 : decode cX6_way 48 = .ok (.invokevirtual 164, 3) := by decide +kernel
theorem dX6_way_51 : decode cX6_way 51 = .ok (.pop, 1) := by decide +kernel
theorem dX6_way_52 : decode cX6_way 52 = .ok (.aload_n 2, 1) := by decide +kernel
theorem dX6_way_53 : decode cX6_way 53 = .ok (.invokevirtual 171, 3) := by decide +kernel
theorem dX6_way_56 : decode cX6_way 56 = .ok (.areturn, 1) := by decide +kernel
theorem dX6_product_0 : decode cX6_product 0 = .ok (.iload_n 1, 1) := by decide +kernel
theorem dX6_product_1 : decode cX6_product 1 = .ok (.invokestatic 61, 3) := by decide +kernel
theorem dX6_product_4 : decode cX6_product 4 = .ok (.iload_n 2, 1) := by decide +kernel
theorem dX6_product_5 : decode cX6_product 5 = .ok (.invokestatic 61, 3) := by decide +kernel
theorem dX6_product_8 : decode cX6_product 8 = .ok (.aload_n 0, 1) := by decide +kernel
theorem dX6_product_9 : decode cX6_product 9 = .ok (.getfield 53, 3) := by decide +kernel
theorem dX6_product_12 : decode cX6_product 12 = .ok (.aload_n 0, 1) := by decide +kernel
theorem dX6_product_13 : decode cX6_product 13 = .ok (.getfield 23, 3) := by decide +kernel
theorem dX6_product_16 : decode cX6_product 16 = .ok (.iload_n 1, 1) := by decide +kernel
theorem dX6_product_17 : decode cX6_product 17 = .ok (.aaload, 1) := by decide +kernel
theorem dX6_product_18 : decode cX6_product 18 = .ok (.invokestatic 276, 3) := by decide +kernel
theorem dX6_product_21 : decode cX6_product 21 = .ok (.aload_n 0, 1) := by decide +kernel
theorem dX6_product_22 : decode cX6_product 22 = .ok (.getfield 57, 3) := by decide +kernel
theorem dX6_product_25 : decode cX6_product 25 = .ok (.aload_n 0, 1) := by decide +kernel
theorem dX6_product_26 : decode cX6_product 26 = .ok (.getfield 23, 3) := by decide +kernel
theorem dX6_product_29 : decode cX6_product 29 = .ok (.iload_n 2, 1) := by decide +kernel
theorem dX6_product_30 : decode cX6_product 30 = .ok (.aaload, 1) := by decide +kernel
theorem dX6_product_31 : decode cX6_product 31 = .ok (.invokestatic 276, 3) := by decide +kernel
theorem dX6_product_34 : decode cX6_product 34 = .ok (.aload_n 0, 1) := by decide +kernel
theorem dX6_product_35 : decode cX6_product 35 = .ok (.getfield 53, 3) := by decide +kernel
theorem dX6_product_38 : decode cX6_product 38 = .ok (.getfield 280, 3) := by decide +kernel
theorem dX6_product_41 : decode cX6_product 41 = .ok (.istore_n 3, 1) := by decide +kernel
theorem dX6_product_42 : decode cX6_product 42 = .ok (.aload_n 0, 1) := by decide +kernel
theorem dX6_product_43 : decode cX6_product 43 = .ok (.getfield 53, 3) := by decide +kernel
theorem dX6_product_46 : decode cX6_product 46 = .ok (.getfield 264, 3) := by decide +kernel
theorem dX6_product_49 : decode cX6_product 49 = .ok (.istore 4, 2) := by decide +kernel
theorem dX6_product_51 : decode cX6_product 51 = .ok (.aload_n 0, 1) := by decide +kernel
theorem dX6_product_52 : decode cX6_product 52 = .ok (.getfield 57, 3) := by decide +kernel
theorem dX6_product_55 : decode cX6_product 55 = .ok (.getfield 280, 3) := by decide +kernel
theorem dX6_product_58 : decode cX6_product 58 = .ok (.istore 5, 2) := by decide +kernel
theorem dX6_product_60 : decode cX6_product 60 = .ok (.aload_n 0, 1) := by decide +kernel
theorem dX6_product_61 : decode cX6_product 61 = .ok (.getfield 57, 3) := by decide +kernel
theorem dX6_product_64 : decode cX6_product 64 = .ok (.getfield 264, 3) := by decide +kernel
theorem dX6_product_67 : decode cX6_product 67 = .ok (.istore 6, 2) := by decide +kernel
theorem dX6_product_69 : decode cX6_product 69 = .ok (.new 158, 3) := by decide +kernel
theorem dX6_product_72 : decode cX6_product 72 = .ok (.dup, 1) := by decide +kernel
theorem dX6_product_73 : decode cX6_product 73 = .ok (.invokespecial 160, 3) := by decide +kernel
theorem dX6_product_76 : decode cX6_product 76 = .ok (.astore 7, 2) := by decide +kernel
theorem dX6_product_78 : decode cX6_product 78 = .ok (.aload 7, 2) := by decide +kernel
theorem dX6_product_80 : decode cX6_product 80 = .ok (.iload_n 3, 1) := by decide +kernel
theorem dX6_product_81 : decode cX6_product 81 = .ok (.iload 5, 2) := by decide +kernel
theorem dX6_product_83 : decode cX6_product 83 = .ok (.imul, 1) := by decide +kernel
theorem dX6_product_84 : decode cX6_product 84 = .ok (.iload 4, 2) := by decide +kernel
theorem dX6_product_86 : decode cX6_product 86 = .ok (.iload 6, 2) := by decide +kernel
theorem dX6_product_88 : decode cX6_product 88 = .ok (.imul, 1) := by decide +kernel
theorem dX6_product_89 : decode cX6_product 89 = .ok (.iadd, 1) := by decide +kernel
theorem dX6_product_90 : decode cX6_product 90 = .ok (.invokevirtual 164, 3) := by decide +kernel
theorem dX6_product_93 : decode cX6_product 93 = .ok (.bipush 32, 2) := by decide +kernel
theorem dX6_product_95 : decode cX6_product 95 = .ok (.invokevirtual 168, 3) := by decide +kernel
theorem dX6_product_98 : decode cX6_product 98 = .ok (.iload_n 3, 1) := by decide +kernel
theorem dX6_product_99 : decode cX6_product 99 = .ok (.iload 6, 2) := by decide +kernel
theorem dX6_product_101 : decode cX6_product 101 = .ok (.imul, 1) := by decide +kernel
theorem dX6_product_102 : decode cX6_product 102 = .ok (.iload 4, 2) := by decide +kernel
theorem dX6_product_104 : decode cX6_product 104 = .ok (.iload 5, 2) := by decide +kernel
theorem dX6_product_106 : decode cX6_product 106 = .ok (.imul, 1) := by decide +kernel
theorem dX6_product_107 : decode cX6_product 107 = .ok (.isub, 1) := by decide +kernel
theorem dX6_product_108 : decode cX6_product 108 = .ok (.invokestatic 283, 3) := by decide +kernel
theorem dX6_product_111 : decode cX6_product 111 = .ok (.invokevirtual 164, 3) := by decide +kernel
theorem dX6_product_114 : decode cX6_product 114 = .ok (.pop, 1) := by decide +kernel
theorem dX6_product_115 : decode cX6_product 115 = .ok (.aload 7, 2) := by decide +kernel
theorem dX6_product_117 : decode cX6_product 117 = .ok (.bipush 32, 2) := by decide +kernel
theorem dX6_product_119 : decode cX6_product 119 = .ok (.invokevirtual 168, 3) := by decide +kernel
theorem dX6_product_122 : decode cX6_product 122 = .ok (.iload_n 3, 1) := by decide +kernel
theorem dX6_product_123 : decode cX6_product 123 = .ok (.iload 5, 2) := by decide +kernel
theorem dX6_product_125 : decode cX6_product 125 = .ok (.imul, 1) := by decide +kernel
theorem dX6_product_126 : decode cX6_product 126 = .ok (.iload 4, 2) := by decide +kernel
theorem dX6_product_128 : decode cX6_product 128 = .ok (.iload 6, 2) := by decide +kernel
theorem dX6_product_130 : decode cX6_product 130 = .ok (.imul, 1) := by decide +kernel
theorem dX6_product_131 : decode cX6_product 131 = .ok (.isub, 1) := by decide +kernel
theorem dX6_product_132 : decode cX6_product 132 = .ok (.invokestatic 283, 3) := by decide +kernel
theorem dX6_product_135 : decode cX6_product 135 = .ok (.invokevirtual 164, 3) := by decide +kernel
theorem dX6_product_138 : decode cX6_product 138 = .ok (.bipush 32, 2) := by decide +kernel
theorem dX6_product_140 : decode cX6_product 140 = .ok (.invokevirtual 168, 3) := by decide +kernel
theorem dX6_product_143 : decode cX6_product 143 = .ok (.iload_n 3, 1) := by decide +kernel
theorem dX6_product_144 : decode cX6_product 144 = .ok (.iload 6, 2) := by decide +kernel
theorem dX6_product_146 : decode cX6_product 146 = .ok (.imul, 1) := by decide +kernel
theorem dX6_product_147 : decode cX6_product 147 = .ok (.iload 4, 2) := by decide +kernel
theorem dX6_product_149 : decode cX6_product 149 = .ok (.iload 5, 2) := by decide +kernel
theorem dX6_product_151 : decode cX6_product 151 = .ok (.imul, 1) := by decide +kernel
theorem dX6_product_152 : decode cX6_product 152 = .ok (.iadd, 1) := by decide +kernel
theorem dX6_product_153 : decode cX6_product 153 = .ok (.invokevirtual 164, 3) := by decide +kernel
theorem dX6_product_156 : decode cX6_product 156 = .ok (.pop, 1) := by decide +kernel
theorem dX6_product_157 : decode cX6_product 157 = .ok (.aload 7, 2) := by decide +kernel
theorem dX6_product_159 : decode cX6_product 159 = .ok (.invokevirtual 171, 3) := by decide +kernel
theorem dX6_product_162 : decode cX6_product 162 = .ok (.areturn, 1) := by decide +kernel
theorem dX6_symbol_0 : decode cX6_symbol 0 = .ok (.iload_n 1, 1) := by decide +kernel
theorem dX6_symbol_1 : decode cX6_symbol 1 = .ok (.invokestatic 61, 3) := by decide +kernel
theorem dX6_symbol_4 : decode cX6_symbol 4 = .ok (.iload_n 2, 1) := by decide +kernel
theorem dX6_symbol_5 : decode cX6_symbol 5 = .ok (.sipush (-999), 3) := by decide +kernel
theorem dX6_symbol_8 : decode cX6_symbol 8 = .ok (.sipush 999, 3) := by decide +kernel
theorem dX6_symbol_11 : decode cX6_symbol 11 = .ok (.invokestatic 82, 3) := by decide +kernel
theorem dX6_symbol_14 : decode cX6_symbol 14 = .ok (.aload_n 0, 1) := by decide +kernel
theorem dX6_symbol_15 : decode cX6_symbol 15 = .ok (.getfield 23, 3) := by decide +kernel
theorem dX6_symbol_18 : decode cX6_symbol 18 = .ok (.iload_n 1, 1) := by decide +kernel
theorem dX6_symbol_19 : decode cX6_symbol 19 = .ok (.aaload, 1) := by decide +kernel
theorem dX6_symbol_20 : decode cX6_symbol 20 = .ok (.getfield 288, 3) := by decide +kernel
theorem dX6_symbol_23 : decode cX6_symbol 23 = .ok (.istore_n 3, 1) := by decide +kernel
theorem dX6_symbol_24 : decode cX6_symbol 24 = .ok (.iload_n 2, 1) := by decide +kernel
theorem dX6_symbol_25 : decode cX6_symbol 25 = .ok (.i2l, 1) := by decide +kernel
theorem dX6_symbol_26 : decode cX6_symbol 26 = .ok (.iload_n 3, 1) := by decide +kernel
theorem dX6_symbol_27 : decode cX6_symbol 27 = .ok (.invokestatic 291, 3) := by decide +kernel
theorem dX6_symbol_30 : decode cX6_symbol 30 = .ok (.ifCond .ne 5, 3) := by decide +kernel
theorem dX6_symbol_33 : decode cX6_symbol 33 = .ok (.iconst 0, 1) := by decide +kernel
theorem dX6_symbol_34 : decode cX6_symbol 34 = .ok (.ireturn, 1) := by decide +kernel
theorem dX6_symbol_35 : decode cX6_symbol 35 = .ok (.iload_n 2, 1) := by decide +kernel
theorem dX6_symbol_36 : decode cX6_symbol 36 = .ok (.iload_n 3, 1) := by decide +kernel
theorem dX6_symbol_37 : decode cX6_symbol 37 = .ok (.iconst 1, 1) := by decide +kernel
theorem dX6_symbol_38 : decode cX6_symbol 38 = .ok (.isub, 1) := by decide +kernel
theorem dX6_symbol_39 : decode cX6_symbol 39 = .ok (.iconst 2, 1) := by decide +kernel
theorem dX6_symbol_40 : decode cX6_symbol 40 = .ok (.idiv, 1) := by decide +kernel
theorem dX6_symbol_41 : decode cX6_symbol 41 = .ok (.iload_n 3, 1) := by decide +kernel
theorem dX6_symbol_42 : decode cX6_symbol 42 = .ok (.invokestatic 295, 3) := by decide +kernel
theorem dX6_symbol_45 : decode cX6_symbol 45 = .ok (.iconst 1, 1) := by decide +kernel
theorem dX6_symbol_46 : decode cX6_symbol 46 = .ok (.if_icmp .ne 7, 3) := by decide +kernel
theorem dX6_symbol_49 : decode cX6_symbol 49 = .ok (.iconst 1, 1) := by decide +kernel
theorem dX6_symbol_50 : decode cX6_symbol 50 = .ok (.goto 4, 3) := by decide +kernel
theorem dX6_symbol_53 : decode cX6_symbol 53 = .ok (.iconst (-1), 1) := by decide +kernel
theorem dX6_symbol_54 : decode cX6_symbol 54 = .ok (.ireturn, 1) := by decide +kernel
theorem dX6_inverse_0 : decode cX6_inverse 0 = .ok (.iload_n 1, 1) := by decide +kernel
theorem dX6_inverse_1 : decode cX6_inverse 1 = .ok (.invokestatic 61, 3) := by decide +kernel
theorem dX6_inverse_4 : decode cX6_inverse 4 = .ok (.iload_n 2, 1) := by decide +kernel
theorem dX6_inverse_5 : decode cX6_inverse 5 = .ok (.sipush (-999), 3) := by decide +kernel
theorem dX6_inverse_8 : decode cX6_inverse 8 = .ok (.sipush 999, 3) := by decide +kernel
theorem dX6_inverse_11 : decode cX6_inverse 11 = .ok (.invokestatic 82, 3) := by decide +kernel
theorem dX6_inverse_14 : decode cX6_inverse 14 = .ok (.aload_n 0, 1) := by decide +kernel
theorem dX6_inverse_15 : decode cX6_inverse 15 = .ok (.getfield 23, 3) := by decide +kernel
theorem dX6_inverse_18 : decode cX6_inverse 18 = .ok (.iload_n 1, 1) := by decide +kernel
theorem dX6_inverse_19 : decode cX6_inverse 19 = .ok (.aaload, 1) := by decide +kernel
theorem dX6_inverse_20 : decode cX6_inverse 20 = .ok (.getfield 288, 3) := by decide +kernel
theorem dX6_inverse_23 : decode cX6_inverse 23 = .ok (.istore_n 3, 1) := by decide +kernel
theorem dX6_inverse_24 : decode cX6_inverse 24 = .ok (.iload_n 2, 1) := by decide +kernel
theorem dX6_inverse_25 : decode cX6_inverse 25 = .ok (.iload_n 3, 1) := by decide +kernel
theorem dX6_inverse_26 : decode cX6_inverse 26 = .ok (.iconst 2, 1) := by decide +kernel
theorem dX6_inverse_27 : decode cX6_inverse 27 = .ok (.isub, 1) := by decide +kernel
theorem dX6_inverse_28 : decode cX6_inverse 28 = .ok (.iload_n 3, 1) := by decide +kernel
theorem dX6_inverse_29 : decode cX6_inverse 29 = .ok (.invokestatic 295, 3) := by decide +kernel
theorem dX6_inverse_32 : decode cX6_inverse 32 = .ok (.ireturn, 1) := by decide +kernel
theorem dX6_isPrime_0 : decode cX6_isPrime 0 = .ok (.iload_n 1, 1) := by decide +kernel
theorem dX6_isPrime_1 : decode cX6_isPrime 1 = .ok (.iconst 0, 1) := by decide +kernel
theorem dX6_isPrime_2 : decode cX6_isPrime 2 = .ok (.sipush 999, 3) := by decide +kernel
theorem dX6_isPrime_5 : decode cX6_isPrime 5 = .ok (.invokestatic 82, 3) := by decide +kernel
theorem dX6_isPrime_8 : decode cX6_isPrime 8 = .ok (.iload_n 1, 1) := by decide +kernel
theorem dX6_isPrime_9 : decode cX6_isPrime 9 = .ok (.invokestatic 299, 3) := by decide +kernel
theorem dX6_isPrime_12 : decode cX6_isPrime 12 = .ok (.ireturn, 1) := by decide +kernel
theorem dX6_house_0 : decode cX6_house 0 = .ok (.iload_n 1, 1) := by decide +kernel
theorem dX6_house_1 : decode cX6_house 1 = .ok (.iconst 0, 1) := by decide +kernel
theorem dX6_house_2 : decode cX6_house 2 = .ok (.iconst 4, 1) := by decide +kernel
theorem dX6_house_3 : decode cX6_house 3 = .ok (.invokestatic 82, 3) := by decide +kernel
theorem dX6_house_6 : decode cX6_house 6 = .ok (.iload_n 1, 1) := by decide +kernel
theorem dX6_house_7 : decode cX6_house 7 = .ok (.tableswitch 49 0 3 #[29, 34, 39, 44], 29) := by decide +kernel
theorem dX6_house_36 : decode cX6_house 36 = .ok (.aload_n 0, 1) := by decide +kernel
theorem dX6_house_37 : decode cX6_house 37 = .ok (.getfield 75, 3) := by decide +kernel
theorem dX6_house_40 : decode cX6_house 40 = .ok (.ireturn, 1) := by decide +kernel
theorem dX6_house_41 : decode cX6_house 41 = .ok (.aload_n 0, 1) := by decide +kernel
theorem dX6_house_42 : decode cX6_house 42 = .ok (.getfield 302, 3) := by decide +kernel
theorem dX6_house_45 : decode cX6_house 45 = .ok (.ireturn, 1) := by decide +kernel
theorem dX6_house_46 : decode cX6_house 46 = .ok (.aload_n 0, 1) := by decide +kernel
theorem dX6_house_47 : decode cX6_house 47 = .ok (.getfield 258, 3) := by decide +kernel
theorem dX6_house_50 : decode cX6_house 50 = .ok (.ireturn, 1) := by decide +kernel
theorem dX6_house_51 : decode cX6_house 51 = .ok (.aload_n 0, 1) := by decide +kernel
theorem dX6_house_52 : decode cX6_house 52 = .ok (.getfield 305, 3) := by decide +kernel
theorem dX6_house_55 : decode cX6_house 55 = .ok (.ireturn, 1) := by decide +kernel
theorem dX6_house_56 : decode cX6_house 56 = .ok (.aload_n 0, 1) := by decide +kernel
theorem dX6_house_57 : decode cX6_house 57 = .ok (.getfield 308, 3) := by decide +kernel
theorem dX6_house_60 : decode cX6_house 60 = .ok (.ireturn, 1) := by decide +kernel
theorem dX6_knock_0 : decode cX6_knock 0 = .ok (.aload_n 0, 1) := by decide +kernel
theorem dX6_knock_1 : decode cX6_knock 1 = .ok (.dup, 1) := by decide +kernel
theorem dX6_knock_2 : decode cX6_knock 2 = .ok (.getfield 308, 3) := by decide +kernel
theorem dX6_knock_5 : decode cX6_knock 5 = .ok (.iconst 1, 1) := by decide +kernel
theorem dX6_knock_6 : decode cX6_knock 6 = .ok (.iadd, 1) := by decide +kernel
theorem dX6_knock_7 : decode cX6_knock 7 = .ok (.putfield 308, 3) := by decide +kernel
theorem dX6_knock_10 : decode cX6_knock 10 = .ok (.aload_n 0, 1) := by decide +kernel
theorem dX6_knock_11 : decode cX6_knock 11 = .ok (.getfield 308, 3) := by decide +kernel
theorem dX6_knock_14 : decode cX6_knock 14 = .ok (.ireturn, 1) := by decide +kernel
theorem dX6_isSound_0 : decode cX6_isSound 0 = .ok (.iconst 0, 1) := by decide +kernel
theorem dX6_isSound_1 : decode cX6_isSound 1 = .ok (.istore_n 1, 1) := by decide +kernel
theorem dX6_isSound_2 : decode cX6_isSound 2 = .ok (.iload_n 1, 1) := by decide +kernel
theorem dX6_isSound_3 : decode cX6_isSound 3 = .ok (.iconst 3, 1) := by decide +kernel
theorem dX6_isSound_4 : decode cX6_isSound 4 = .ok (.if_icmp .ge 48, 3) := by decide +kernel
theorem dX6_isSound_7 : decode cX6_isSound 7 = .ok (.aload_n 0, 1) := by decide +kernel
theorem dX6_isSound_8 : decode cX6_isSound 8 = .ok (.aload_n 0, 1) := by decide +kernel
theorem dX6_isSound_9 : decode cX6_isSound 9 = .ok (.iload_n 1, 1) := by decide +kernel
theorem dX6_isSound_10 : decode cX6_isSound 10 = .ok (.invokevirtual 90, 3) := by decide +kernel
theorem dX6_isSound_13 : decode cX6_isSound 13 = .ok (.invokevirtual 311, 3) := by decide +kernel
theorem dX6_isSound_16 : decode cX6_isSound 16 = .ok (.ifCond .eq 28, 3) := by decide +kernel
theorem dX6_isSound_19 : decode cX6_isSound 19 = .ok (.aload_n 0, 1) := by decide +kernel
theorem dX6_isSound_20 : decode cX6_isSound 20 = .ok (.aload_n 0, 1) := by decide +kernel
theorem dX6_isSound_21 : decode cX6_isSound 21 = .ok (.getfield 17, 3) := by decide +kernel
theorem dX6_isSound_24 : decode cX6_isSound 24 = .ok (.iload_n 1, 1) := by decide +kernel
theorem dX6_isSound_25 : decode cX6_isSound 25 = .ok (.aaload, 1) := by decide +kernel
theorem dX6_isSound_26 : decode cX6_isSound 26 = .ok (.invokevirtual 315, 3) := by decide +kernel
theorem dX6_isSound_29 : decode cX6_isSound 29 = .ok (.ifCond .eq 15, 3) := by decide +kernel
theorem dX6_isSound_32 : decode cX6_isSound 32 = .ok (.aload_n 0, 1) := by decide +kernel
theorem dX6_isSound_33 : decode cX6_isSound 33 = .ok (.getfield 23, 3) := by decide +kernel
theorem dX6_isSound_36 : decode cX6_isSound 36 = .ok (.iload_n 1, 1) := by decide +kernel
theorem dX6_isSound_37 : decode cX6_isSound 37 = .ok (.aaload, 1) := by decide +kernel
theorem dX6_isSound_38 : decode cX6_isSound 38 = .ok (.invokevirtual 318, 3) := by decide +kernel
theorem dX6_isSound_41 : decode cX6_isSound 41 = .ok (.ifCond .ne 5, 3) := by decide +kernel
theorem dX6_isSound_44 : decode cX6_isSound 44 = .ok (.iconst 0, 1) := by decide +kernel
theorem dX6_isSound_45 : decode cX6_isSound 45 = .ok (.ireturn, 1) := by decide +kernel
theorem dX6_isSound_46 : decode cX6_isSound 46 = .ok (.iinc 1 1, 3) := by decide +kernel
theorem dX6_isSound_49 : decode cX6_isSound 49 = .ok (.goto (-47), 3) := by decide +kernel
theorem dX6_isSound_52 : decode cX6_isSound 52 = .ok (.iconst 1, 1) := by decide +kernel
theorem dX6_isSound_53 : decode cX6_isSound 53 = .ok (.ireturn, 1) := by decide +kernel
theorem dX6_digest_0 : decode cX6_digest 0 = .ok (.ldc2_w 321, 3) := by decide +kernel
theorem dX6_digest_3 : decode cX6_digest 3 = .ok (.lstore_n 1, 1) := by decide +kernel
theorem dX6_digest_4 : decode cX6_digest 4 = .ok (.iconst 0, 1) := by decide +kernel
theorem dX6_digest_5 : decode cX6_digest 5 = .ok (.istore_n 3, 1) := by decide +kernel
theorem dX6_digest_6 : decode cX6_digest 6 = .ok (.iload_n 3, 1) := by decide +kernel
theorem dX6_digest_7 : decode cX6_digest 7 = .ok (.iconst 3, 1) := by decide +kernel
theorem dX6_digest_8 : decode cX6_digest 8 = .ok (.if_icmp .ge 20, 3) := by decide +kernel
theorem dX6_digest_11 : decode cX6_digest 11 = .ok (.aload_n 0, 1) := by decide +kernel
theorem dX6_digest_12 : decode cX6_digest 12 = .ok (.lload_n 1, 1) := by decide +kernel
theorem dX6_digest_13 : decode cX6_digest 13 = .ok (.aload_n 0, 1) := by decide +kernel
theorem dX6_digest_14 : decode cX6_digest 14 = .ok (.iload_n 3, 1) := by decide +kernel
theorem dX6_digest_15 : decode cX6_digest 15 = .ok (.invokevirtual 90, 3) := by decide +kernel
theorem dX6_digest_18 : decode cX6_digest 18 = .ok (.invokevirtual 323, 3) := by decide +kernel
theorem dX6_digest_21 : decode cX6_digest 21 = .ok (.lstore_n 1, 1) := by decide +kernel
theorem dX6_digest_22 : decode cX6_digest 22 = .ok (.iinc 3 1, 3) := by decide +kernel
theorem dX6_digest_25 : decode cX6_digest 25 = .ok (.goto (-19), 3) := by decide +kernel
theorem dX6_digest_28 : decode cX6_digest 28 = .ok (.iconst 0, 1) := by decide +kernel
theorem dX6_digest_29 : decode cX6_digest 29 = .ok (.istore_n 3, 1) := by decide +kernel
theorem dX6_digest_30 : decode cX6_digest 30 = .ok (.iload_n 3, 1) := by decide +kernel
theorem dX6_digest_31 : decode cX6_digest 31 = .ok (.iconst 3, 1) := by decide +kernel
theorem dX6_digest_32 : decode cX6_digest 32 = .ok (.if_icmp .ge 20, 3) := by decide +kernel
theorem dX6_digest_35 : decode cX6_digest 35 = .ok (.lload_n 1, 1) := by decide +kernel
theorem dX6_digest_36 : decode cX6_digest 36 = .ok (.aload_n 0, 1) := by decide +kernel
theorem dX6_digest_37 : decode cX6_digest 37 = .ok (.getfield 17, 3) := by decide +kernel
theorem dX6_digest_40 : decode cX6_digest 40 = .ok (.iload_n 3, 1) := by decide +kernel
theorem dX6_digest_41 : decode cX6_digest 41 = .ok (.aaload, 1) := by decide +kernel
theorem dX6_digest_42 : decode cX6_digest 42 = .ok (.invokestatic 327, 3) := by decide +kernel
theorem dX6_digest_45 : decode cX6_digest 45 = .ok (.lstore_n 1, 1) := by decide +kernel
theorem dX6_digest_46 : decode cX6_digest 46 = .ok (.iinc 3 1, 3) := by decide +kernel
theorem dX6_digest_49 : decode cX6_digest 49 = .ok (.goto (-19), 3) := by decide +kernel
theorem dX6_digest_52 : decode cX6_digest 52 = .ok (.iconst 0, 1) := by decide +kernel
theorem dX6_digest_53 : decode cX6_digest 53 = .ok (.istore_n 3, 1) := by decide +kernel
theorem dX6_digest_54 : decode cX6_digest 54 = .ok (.iload_n 3, 1) := by decide +kernel
theorem dX6_digest_55 : decode cX6_digest 55 = .ok (.iconst 3, 1) := by decide +kernel
theorem dX6_digest_56 : decode cX6_digest 56 = .ok (.if_icmp .ge 42, 3) := by decide +kernel
theorem dX6_digest_59 : decode cX6_digest 59 = .ok (.iconst 0, 1) := by decide +kernel
theorem dX6_digest_60 : decode cX6_digest 60 = .ok (.istore 4, 2) := by decide +kernel
theorem dX6_digest_62 : decode cX6_digest 62 = .ok (.iload 4, 2) := by decide +kernel
theorem dX6_digest_64 : decode cX6_digest 64 = .ok (.bipush 7, 2) := by decide +kernel
theorem dX6_digest_66 : decode cX6_digest 66 = .ok (.if_icmp .gt 26, 3) := by decide +kernel
theorem dX6_digest_69 : decode cX6_digest 69 = .ok (.lload_n 1, 1) := by decide +kernel
theorem dX6_digest_70 : decode cX6_digest 70 = .ok (.aload_n 0, 1) := by decide +kernel
theorem dX6_digest_71 : decode cX6_digest 71 = .ok (.getfield 23, 3) := by decide +kernel
theorem dX6_digest_74 : decode cX6_digest 74 = .ok (.iload_n 3, 1) := by decide +kernel
theorem dX6_digest_75 : decode cX6_digest 75 = .ok (.aaload, 1) := by decide +kernel
theorem dX6_digest_76 : decode cX6_digest 76 = .ok (.iload 4, 2) := by decide +kernel
theorem dX6_digest_78 : decode cX6_digest 78 = .ok (.invokevirtual 273, 3) := by decide +kernel
theorem dX6_digest_81 : decode cX6_digest 81 = .ok (.i2l, 1) := by decide +kernel
theorem dX6_digest_82 : decode cX6_digest 82 = .ok (.invokestatic 331, 3) := by decide +kernel
theorem dX6_digest_85 : decode cX6_digest 85 = .ok (.lstore_n 1, 1) := by decide +kernel
theorem dX6_digest_86 : decode cX6_digest 86 = .ok (.iinc 4 1, 3) := by decide +kernel
theorem dX6_digest_89 : decode cX6_digest 89 = .ok (.goto (-27), 3) := by decide +kernel
theorem dX6_digest_92 : decode cX6_digest 92 = .ok (.iinc 3 1, 3) := by decide +kernel
theorem dX6_digest_95 : decode cX6_digest 95 = .ok (.goto (-41), 3) := by decide +kernel
theorem dX6_digest_98 : decode cX6_digest 98 = .ok (.iconst 0, 1) := by decide +kernel
theorem dX6_digest_99 : decode cX6_digest 99 = .ok (.istore_n 3, 1) := by decide +kernel
theorem dX6_digest_100 : decode cX6_digest 100 = .ok (.iload_n 3, 1) := by decide +kernel
theorem dX6_digest_101 : decode cX6_digest 101 = .ok (.iconst 4, 1) := by decide +kernel
theorem dX6_digest_102 : decode cX6_digest 102 = .ok (.if_icmp .gt 20, 3) := by decide +kernel
theorem dX6_digest_105 : decode cX6_digest 105 = .ok (.lload_n 1, 1) := by decide +kernel
theorem dX6_digest_106 : decode cX6_digest 106 = .ok (.aload_n 0, 1) := by decide +kernel
theorem dX6_digest_107 : decode cX6_digest 107 = .ok (.iload_n 3, 1) := by decide +kernel
theorem dX6_digest_108 : decode cX6_digest 108 = .ok (.invokevirtual 335, 3) := by decide +kernel
theorem dX6_digest_111 : decode cX6_digest 111 = .ok (.i2l, 1) := by decide +kernel
theorem dX6_digest_112 : decode cX6_digest 112 = .ok (.invokestatic 331, 3) := by decide +kernel
theorem dX6_digest_115 : decode cX6_digest 115 = .ok (.lstore_n 1, 1) := by decide +kernel
theorem dX6_digest_116 : decode cX6_digest 116 = .ok (.iinc 3 1, 3) := by decide +kernel
theorem dX6_digest_119 : decode cX6_digest 119 = .ok (.goto (-19), 3) := by decide +kernel
theorem dX6_digest_122 : decode cX6_digest 122 = .ok (.lload_n 1, 1) := by decide +kernel
theorem dX6_digest_123 : decode cX6_digest 123 = .ok (.aload_n 0, 1) := by decide +kernel
theorem dX6_digest_124 : decode cX6_digest 124 = .ok (.invokevirtual 338, 3) := by decide +kernel
theorem dX6_digest_127 : decode cX6_digest 127 = .ok (.ifCond .eq 7, 3) := by decide +kernel
theorem dX6_digest_130 : decode cX6_digest 130 = .ok (.lconst 1, 1) := by decide +kernel
theorem dX6_digest_131 : decode cX6_digest 131 = .ok (.goto 4, 3) := by decide +kernel
theorem dX6_digest_134 : decode cX6_digest 134 = .ok (.lconst 0, 1) := by decide +kernel
theorem dX6_digest_135 : decode cX6_digest 135 = .ok (.invokestatic 331, 3) := by decide +kernel
theorem dX6_digest_138 : decode cX6_digest 138 = .ok (.lreturn, 1) := by decide +kernel
theorem dX6_checkThing_0 : decode cX6_checkThing 0 = .ok (.iload_n 0, 1) := by decide +kernel
theorem dX6_checkThing_1 : decode cX6_checkThing 1 = .ok (.ifCond .lt 8, 3) := by decide +kernel
theorem dX6_checkThing_4 : decode cX6_checkThing 4 = .ok (.iload_n 0, 1) := by decide +kernel
theorem dX6_checkThing_5 : decode cX6_checkThing 5 = .ok (.iconst 3, 1) := by decide +kernel
theorem dX6_checkThing_6 : decode cX6_checkThing 6 = .ok (.if_icmp .lt 14, 3) := by decide +kernel
theorem dX6_checkThing_9 : decode cX6_checkThing 9 = .ok (.new 341, 3) := by decide +kernel
theorem dX6_checkThing_12 : decode cX6_checkThing 12 = .ok (.dup, 1) := by decide +kernel
theorem dX6_checkThing_13 : decode cX6_checkThing 13 = .ok (.ldc_w 343, 3) := by decide +kernel
theorem dX6_checkThing_16 : decode cX6_checkThing 16 = .ok (.invokespecial 345, 3) := by decide +kernel
theorem dX6_checkThing_19 : decode cX6_checkThing 19 = .ok (.athrow, 1) := by decide +kernel
theorem dX6_checkThing_20 : decode cX6_checkThing 20 = .ok (.return_, 1) := by decide +kernel
theorem dX6_checkRange_0 : decode cX6_checkRange 0 = .ok (.iload_n 0, 1) := by decide +kernel
theorem dX6_checkRange_1 : decode cX6_checkRange 1 = .ok (.iload_n 1, 1) := by decide +kernel
theorem dX6_checkRange_2 : decode cX6_checkRange 2 = .ok (.if_icmp .lt 8, 3) := by decide +kernel
theorem dX6_checkRange_5 : decode cX6_checkRange 5 = .ok (.iload_n 0, 1) := by decide +kernel
theorem dX6_checkRange_6 : decode cX6_checkRange 6 = .ok (.iload_n 2, 1) := by decide +kernel
theorem dX6_checkRange_7 : decode cX6_checkRange 7 = .ok (.if_icmp .le 14, 3) := by decide +kernel
theorem dX6_checkRange_10 : decode cX6_checkRange 10 = .ok (.new 348, 3) := by decide +kernel
theorem dX6_checkRange_13 : decode cX6_checkRange 13 = .ok (.dup, 1) := by decide +kernel
theorem dX6_checkRange_14 : decode cX6_checkRange 14 = .ok (.ldc_w 350, 3) := by decide +kernel
theorem dX6_checkRange_17 : decode cX6_checkRange 17 = .ok (.invokespecial 352, 3) := by decide +kernel
theorem dX6_checkRange_20 : decode cX6_checkRange 20 = .ok (.athrow, 1) := by decide +kernel
theorem dX6_checkRange_21 : decode cX6_checkRange 21 = .ok (.return_, 1) := by decide +kernel
theorem dX6_checkBase_0 : decode cX6_checkBase 0 = .ok (.iload_n 0, 1) := by decide +kernel
theorem dX6_checkBase_1 : decode cX6_checkBase 1 = .ok (.iconst 2, 1) := by decide +kernel
theorem dX6_checkBase_2 : decode cX6_checkBase 2 = .ok (.bipush 99, 2) := by decide +kernel
theorem dX6_checkBase_4 : decode cX6_checkBase 4 = .ok (.invokestatic 82, 3) := by decide +kernel
theorem dX6_checkBase_7 : decode cX6_checkBase 7 = .ok (.iload_n 0, 1) := by decide +kernel
theorem dX6_checkBase_8 : decode cX6_checkBase 8 = .ok (.invokestatic 78, 3) := by decide +kernel
theorem dX6_checkBase_11 : decode cX6_checkBase 11 = .ok (.istore_n 1, 1) := by decide +kernel
theorem dX6_checkBase_12 : decode cX6_checkBase 12 = .ok (.iload_n 1, 1) := by decide +kernel
theorem dX6_checkBase_13 : decode cX6_checkBase 13 = .ok (.iload_n 1, 1) := by decide +kernel
theorem dX6_checkBase_14 : decode cX6_checkBase 14 = .ok (.imul, 1) := by decide +kernel
theorem dX6_checkBase_15 : decode cX6_checkBase 15 = .ok (.iload_n 0, 1) := by decide +kernel
theorem dX6_checkBase_16 : decode cX6_checkBase 16 = .ok (.if_icmp .ne 14, 3) := by decide +kernel
theorem dX6_checkBase_19 : decode cX6_checkBase 19 = .ok (.new 348, 3) := by decide +kernel
theorem dX6_checkBase_22 : decode cX6_checkBase 22 = .ok (.dup, 1) := by decide +kernel
theorem dX6_checkBase_23 : decode cX6_checkBase 23 = .ok (.ldc_w 353, 3) := by decide +kernel
theorem dX6_checkBase_26 : decode cX6_checkBase 26 = .ok (.invokespecial 352, 3) := by decide +kernel
theorem dX6_checkBase_29 : decode cX6_checkBase 29 = .ok (.athrow, 1) := by decide +kernel
theorem dX6_checkBase_30 : decode cX6_checkBase 30 = .ok (.return_, 1) := by decide +kernel
theorem dX6_refuse_0 : decode cX6_refuse 0 = .ok (.aload_n 0, 1) := by decide +kernel
theorem dX6_refuse_1 : decode cX6_refuse 1 = .ok (.dup, 1) := by decide +kernel
theorem dX6_refuse_2 : decode cX6_refuse 2 = .ok (.getfield 305, 3) := by decide +kernel
theorem dX6_refuse_5 : decode cX6_refuse 5 = .ok (.iconst 1, 1) := by decide +kernel
theorem dX6_refuse_6 : decode cX6_refuse 6 = .ok (.iadd, 1) := by decide +kernel
theorem dX6_refuse_7 : decode cX6_refuse 7 = .ok (.putfield 305, 3) := by decide +kernel
theorem dX6_refuse_10 : decode cX6_refuse 10 = .ok (.bipush (-9), 2) := by decide +kernel
theorem dX6_refuse_12 : decode cX6_refuse 12 = .ok (.ireturn, 1) := by decide +kernel
theorem dX6_unfold_0 : decode cX6_unfold 0 = .ok (.aload_n 0, 1) := by decide +kernel
theorem dX6_unfold_1 : decode cX6_unfold 1 = .ok (.getfield 30, 3) := by decide +kernel
theorem dX6_unfold_4 : decode cX6_unfold 4 = .ok (.aload_n 0, 1) := by decide +kernel
theorem dX6_unfold_5 : decode cX6_unfold 5 = .ok (.getfield 11, 3) := by decide +kernel
theorem dX6_unfold_8 : decode cX6_unfold 8 = .ok (.iload_n 1, 1) := by decide +kernel
theorem dX6_unfold_9 : decode cX6_unfold 9 = .ok (.aaload, 1) := by decide +kernel
theorem dX6_unfold_10 : decode cX6_unfold 10 = .ok (.getfield 68, 3) := by decide +kernel
theorem dX6_unfold_13 : decode cX6_unfold 13 = .ok (.invokevirtual 152, 3) := by decide +kernel
theorem dX6_unfold_16 : decode cX6_unfold 16 = .ok (.aload_n 0, 1) := by decide +kernel
theorem dX6_unfold_17 : decode cX6_unfold 17 = .ok (.getfield 11, 3) := by decide +kernel
theorem dX6_unfold_20 : decode cX6_unfold 20 = .ok (.iload_n 1, 1) := by decide +kernel
theorem dX6_unfold_21 : decode cX6_unfold 21 = .ok (.aaload, 1) := by decide +kernel
theorem dX6_unfold_22 : decode cX6_unfold 22 = .ok (.areturn, 1) := by decide +kernel
theorem dX6_walkPart_0 : decode cX6_walkPart 0 = .ok (.iload_n 2, 1) := by decide +kernel
theorem dX6_walkPart_1 : decode cX6_walkPart 1 = .ok (.tableswitch 77 0 4 #[35, 40, 45, 53, 65], 35) := by decide +kernel
theorem dX6_walkPart_36 : decode cX6_walkPart 36 = .ok (.aload_n 1, 1) := by decide +kernel
theorem dX6_walkPart_37 : decode cX6_walkPart 37 = .ok (.getfield 68, 3) := by decide +kernel
theorem dX6_walkPart_40 : decode cX6_walkPart 40 = .ok (.ireturn, 1) := by decide +kernel
theorem dX6_walkPart_41 : decode cX6_walkPart 41 = .ok (.aload_n 1, 1) := by decide +kernel
theorem dX6_walkPart_42 : decode cX6_walkPart 42 = .ok (.getfield 72, 3) := by decide +kernel
theorem dX6_walkPart_45 : decode cX6_walkPart 45 = .ok (.ireturn, 1) := by decide +kernel
theorem dX6_walkPart_46 : decode cX6_walkPart 46 = .ok (.aload_n 0, 1) := by decide +kernel
theorem dX6_walkPart_47 : decode cX6_walkPart 47 = .ok (.getfield 30, 3) := by decide +kernel
theorem dX6_walkPart_50 : decode cX6_walkPart 50 = .ok (.getfield 355, 3) := by decide +kernel
theorem dX6_walkPart_53 : decode cX6_walkPart 53 = .ok (.ireturn, 1) := by decide +kernel
theorem dX6_walkPart_54 : decode cX6_walkPart 54 = .ok (.aload_n 0, 1) := by decide +kernel
theorem dX6_walkPart_55 : decode cX6_walkPart 55 = .ok (.getfield 30, 3) := by decide +kernel
theorem dX6_walkPart_58 : decode cX6_walkPart 58 = .ok (.aload_n 1, 1) := by decide +kernel
theorem dX6_walkPart_59 : decode cX6_walkPart 59 = .ok (.getfield 72, 3) := by decide +kernel
theorem dX6_walkPart_62 : decode cX6_walkPart 62 = .ok (.invokevirtual 184, 3) := by decide +kernel
theorem dX6_walkPart_65 : decode cX6_walkPart 65 = .ok (.ireturn, 1) := by decide +kernel
theorem dX6_walkPart_66 : decode cX6_walkPart 66 = .ok (.aload_n 0, 1) := by decide +kernel
theorem dX6_walkPart_67 : decode cX6_walkPart 67 = .ok (.getfield 30, 3) := by decide +kernel
theorem dX6_walkPart_70 : decode cX6_walkPart 70 = .ok (.aload_n 1, 1) := by decide +kernel
theorem dX6_walkPart_71 : decode cX6_walkPart 71 = .ok (.getfield 72, 3) := by decide +kernel
theorem dX6_walkPart_74 : decode cX6_walkPart 74 = .ok (.invokevirtual 187, 3) := by decide +kernel
theorem dX6_walkPart_77 : decode cX6_walkPart 77 = .ok (.ireturn, 1) := by decide +kernel
theorem dX6_walkPart_78 : decode cX6_walkPart 78 = .ok (.aload_n 0, 1) := by decide +kernel
theorem dX6_walkPart_79 : decode cX6_walkPart 79 = .ok (.getfield 30, 3) := by decide +kernel
theorem dX6_walkPart_82 : decode cX6_walkPart 82 = .ok (.aload_n 1, 1) := by decide +kernel
theorem dX6_walkPart_83 : decode cX6_walkPart 83 = .ok (.getfield 72, 3) := by decide +kernel
theorem dX6_walkPart_86 : decode cX6_walkPart 86 = .ok (.invokevirtual 161, 3) := by decide +kernel
theorem dX6_walkPart_89 : decode cX6_walkPart 89 = .ok (.ireturn, 1) := by decide +kernel
theorem dX6_walkNumber_0 : decode cX6_walkNumber 0 = .ok (.iload_n 2, 1) := by decide +kernel
theorem dX6_walkNumber_1 : decode cX6_walkNumber 1 = .ok (.tableswitch 65 0 2 #[27, 39, 51], 27) := by decide +kernel
theorem dX6_walkNumber_28 : decode cX6_walkNumber 28 = .ok (.aload_n 0, 1) := by decide +kernel
theorem dX6_walkNumber_29 : decode cX6_walkNumber 29 = .ok (.getfield 30, 3) := by decide +kernel
theorem dX6_walkNumber_32 : decode cX6_walkNumber 32 = .ok (.aload_n 1, 1) := by decide +kernel
theorem dX6_walkNumber_33 : decode cX6_walkNumber 33 = .ok (.getfield 72, 3) := by decide +kernel
theorem dX6_walkNumber_36 : decode cX6_walkNumber 36 = .ok (.invokevirtual 119, 3) := by decide +kernel
theorem dX6_walkNumber_39 : decode cX6_walkNumber 39 = .ok (.areturn, 1) := by decide +kernel
theorem dX6_walkNumber_40 : decode cX6_walkNumber 40 = .ok (.aload_n 0, 1) := by decide +kernel
theorem dX6_walkNumber_41 : decode cX6_walkNumber 41 = .ok (.getfield 30, 3) := by decide +kernel
theorem dX6_walkNumber_44 : decode cX6_walkNumber 44 = .ok (.aload_n 1, 1) := by decide +kernel
theorem dX6_walkNumber_45 : decode cX6_walkNumber 45 = .ok (.getfield 72, 3) := by decide +kernel
theorem dX6_walkNumber_48 : decode cX6_walkNumber 48 = .ok (.invokevirtual 123, 3) := by decide +kernel
theorem dX6_walkNumber_51 : decode cX6_walkNumber 51 = .ok (.areturn, 1) := by decide +kernel
theorem dX6_walkNumber_52 : decode cX6_walkNumber 52 = .ok (.aload_n 0, 1) := by decide +kernel
theorem dX6_walkNumber_53 : decode cX6_walkNumber 53 = .ok (.getfield 30, 3) := by decide +kernel
theorem dX6_walkNumber_56 : decode cX6_walkNumber 56 = .ok (.aload_n 1, 1) := by decide +kernel
theorem dX6_walkNumber_57 : decode cX6_walkNumber 57 = .ok (.getfield 72, 3) := by decide +kernel
theorem dX6_walkNumber_60 : decode cX6_walkNumber 60 = .ok (.iconst 1, 1) := by decide +kernel
theorem dX6_walkNumber_61 : decode cX6_walkNumber 61 = .ok (.isub, 1) := by decide +kernel
theorem dX6_walkNumber_62 : decode cX6_walkNumber 62 = .ok (.invokevirtual 119, 3) := by decide +kernel
theorem dX6_walkNumber_65 : decode cX6_walkNumber 65 = .ok (.areturn, 1) := by decide +kernel
theorem dX6_walkNumber_66 : decode cX6_walkNumber 66 = .ok (.aload_n 0, 1) := by decide +kernel
theorem dX6_walkNumber_67 : decode cX6_walkNumber 67 = .ok (.getfield 30, 3) := by decide +kernel
theorem dX6_walkNumber_70 : decode cX6_walkNumber 70 = .ok (.aload_n 1, 1) := by decide +kernel
theorem dX6_walkNumber_71 : decode cX6_walkNumber 71 = .ok (.getfield 72, 3) := by decide +kernel
theorem dX6_walkNumber_74 : decode cX6_walkNumber 74 = .ok (.iconst 1, 1) := by decide +kernel
theorem dX6_walkNumber_75 : decode cX6_walkNumber 75 = .ok (.isub, 1) := by decide +kernel
theorem dX6_walkNumber_76 : decode cX6_walkNumber 76 = .ok (.invokevirtual 123, 3) := by decide +kernel
theorem dX6_walkNumber_79 : decode cX6_walkNumber 79 = .ok (.areturn, 1) := by decide +kernel
theorem dX6_walkTest_0 : decode cX6_walkTest 0 = .ok (.aload_n 0, 1) := by decide +kernel
theorem dX6_walkTest_1 : decode cX6_walkTest 1 = .ok (.getfield 30, 3) := by decide +kernel
theorem dX6_walkTest_4 : decode cX6_walkTest 4 = .ok (.aload_n 1, 1) := by decide +kernel
theorem dX6_walkTest_5 : decode cX6_walkTest 5 = .ok (.getfield 72, 3) := by decide +kernel
theorem dX6_walkTest_8 : decode cX6_walkTest 8 = .ok (.invokevirtual 119, 3) := by decide +kernel
theorem dX6_walkTest_11 : decode cX6_walkTest 11 = .ok (.astore_n 3, 1) := by decide +kernel
theorem dX6_walkTest_12 : decode cX6_walkTest 12 = .ok (.aload_n 0, 1) := by decide +kernel
theorem dX6_walkTest_13 : decode cX6_walkTest 13 = .ok (.getfield 30, 3) := by decide +kernel
theorem dX6_walkTest_16 : decode cX6_walkTest 16 = .ok (.aload_n 1, 1) := by decide +kernel
theorem dX6_walkTest_17 : decode cX6_walkTest 17 = .ok (.getfield 72, 3) := by decide +kernel
theorem dX6_walkTest_20 : decode cX6_walkTest 20 = .ok (.invokevirtual 123, 3) := by decide +kernel
theorem dX6_walkTest_23 : decode cX6_walkTest 23 = .ok (.astore 4, 2) := by decide +kernel
theorem dX6_walkTest_25 : decode cX6_walkTest 25 = .ok (.iload_n 2, 1) := by decide +kernel
theorem dX6_walkTest_26 : decode cX6_walkTest 26 = .ok (.lookupswitch 68 #[(0, 26), (1, 41)], 26) := by decide +kernel
theorem dX6_walkTest_52 : decode cX6_walkTest 52 = .ok (.aload_n 0, 1) := by decide +kernel
theorem dX6_walkTest_53 : decode cX6_walkTest 53 = .ok (.getfield 37, 3) := by decide +kernel
theorem dX6_walkTest_56 : decode cX6_walkTest 56 = .ok (.aload_n 3, 1) := by decide +kernel
theorem dX6_walkTest_57 : decode cX6_walkTest 57 = .ok (.aload 4, 2) := by decide +kernel
theorem dX6_walkTest_59 : decode cX6_walkTest 59 = .ok (.invokevirtual 358, 3) := by decide +kernel
theorem dX6_walkTest_62 : decode cX6_walkTest 62 = .ok (.invokevirtual 362, 3) := by decide +kernel
theorem dX6_walkTest_65 : decode cX6_walkTest 65 = .ok (.l2i, 1) := by decide +kernel
theorem dX6_walkTest_66 : decode cX6_walkTest 66 = .ok (.ireturn, 1) := by decide +kernel
theorem dX6_walkTest_67 : decode cX6_walkTest 67 = .ok (.aload_n 0, 1) := by decide +kernel
theorem dX6_walkTest_68 : decode cX6_walkTest 68 = .ok (.getfield 37, 3) := by decide +kernel
theorem dX6_walkTest_71 : decode cX6_walkTest 71 = .ok (.aload_n 3, 1) := by decide +kernel
theorem dX6_walkTest_72 : decode cX6_walkTest 72 = .ok (.aload 4, 2) := by decide +kernel
theorem dX6_walkTest_74 : decode cX6_walkTest 74 = .ok (.aload_n 0, 1) := by decide +kernel
theorem dX6_walkTest_75 : decode cX6_walkTest 75 = .ok (.aload_n 1, 1) := by decide +kernel
theorem dX6_walkTest_76 : decode cX6_walkTest 76 = .ok (.iconst 2, 1) := by decide +kernel
theorem dX6_walkTest_77 : decode cX6_walkTest 77 = .ok (.invokevirtual 98, 3) := by decide +kernel
theorem dX6_walkTest_80 : decode cX6_walkTest 80 = .ok (.aload_n 0, 1) := by decide +kernel
theorem dX6_walkTest_81 : decode cX6_walkTest 81 = .ok (.aload_n 1, 1) := by decide +kernel
theorem dX6_walkTest_82 : decode cX6_walkTest 82 = .ok (.iconst 3, 1) := by decide +kernel
theorem dX6_walkTest_83 : decode cX6_walkTest 83 = .ok (.invokevirtual 98, 3) := by decide +kernel
theorem dX6_walkTest_86 : decode cX6_walkTest 86 = .ok (.invokevirtual 366, 3) := by decide +kernel
theorem dX6_walkTest_89 : decode cX6_walkTest 89 = .ok (.invokevirtual 362, 3) := by decide +kernel
theorem dX6_walkTest_92 : decode cX6_walkTest 92 = .ok (.l2i, 1) := by decide +kernel
theorem dX6_walkTest_93 : decode cX6_walkTest 93 = .ok (.ireturn, 1) := by decide +kernel
theorem dX6_walkTest_94 : decode cX6_walkTest 94 = .ok (.aload_n 0, 1) := by decide +kernel
theorem dX6_walkTest_95 : decode cX6_walkTest 95 = .ok (.getfield 37, 3) := by decide +kernel
theorem dX6_walkTest_98 : decode cX6_walkTest 98 = .ok (.aload_n 1, 1) := by decide +kernel
theorem dX6_walkTest_99 : decode cX6_walkTest 99 = .ok (.getfield 68, 3) := by decide +kernel
theorem dX6_walkTest_102 : decode cX6_walkTest 102 = .ok (.aload_n 3, 1) := by decide +kernel
theorem dX6_walkTest_103 : decode cX6_walkTest 103 = .ok (.aload 4, 2) := by decide +kernel
theorem dX6_walkTest_105 : decode cX6_walkTest 105 = .ok (.invokevirtual 234, 3) := by decide +kernel
theorem dX6_walkTest_108 : decode cX6_walkTest 108 = .ok (.invokevirtual 362, 3) := by decide +kernel
theorem dX6_walkTest_111 : decode cX6_walkTest 111 = .ok (.l2i, 1) := by decide +kernel
theorem dX6_walkTest_112 : decode cX6_walkTest 112 = .ok (.ireturn, 1) := by decide +kernel
theorem dX6_walkDecimals_0 : decode cX6_walkDecimals 0 = .ok (.aload_n 0, 1) := by decide +kernel
theorem dX6_walkDecimals_1 : decode cX6_walkDecimals 1 = .ok (.getfield 37, 3) := by decide +kernel
theorem dX6_walkDecimals_4 : decode cX6_walkDecimals 4 = .ok (.aload_n 0, 1) := by decide +kernel
theorem dX6_walkDecimals_5 : decode cX6_walkDecimals 5 = .ok (.getfield 30, 3) := by decide +kernel
theorem dX6_walkDecimals_8 : decode cX6_walkDecimals 8 = .ok (.aload_n 1, 1) := by decide +kernel
theorem dX6_walkDecimals_9 : decode cX6_walkDecimals 9 = .ok (.getfield 72, 3) := by decide +kernel
theorem dX6_walkDecimals_12 : decode cX6_walkDecimals 12 = .ok (.invokevirtual 119, 3) := by decide +kernel
theorem dX6_walkDecimals_15 : decode cX6_walkDecimals 15 = .ok (.aload_n 0, 1) := by decide +kernel
theorem dX6_walkDecimals_16 : decode cX6_walkDecimals 16 = .ok (.getfield 30, 3) := by decide +kernel
theorem dX6_walkDecimals_19 : decode cX6_walkDecimals 19 = .ok (.aload_n 1, 1) := by decide +kernel
theorem dX6_walkDecimals_20 : decode cX6_walkDecimals 20 = .ok (.getfield 72, 3) := by decide +kernel
theorem dX6_walkDecimals_23 : decode cX6_walkDecimals 23 = .ok (.invokevirtual 123, 3) := by decide +kernel
theorem dX6_walkDecimals_26 : decode cX6_walkDecimals 26 = .ok (.iload_n 2, 1) := by decide +kernel
theorem dX6_walkDecimals_27 : decode cX6_walkDecimals 27 = .ok (.invokevirtual 370, 3) := by decide +kernel
theorem dX6_walkDecimals_30 : decode cX6_walkDecimals 30 = .ok (.lreturn, 1) := by decide +kernel
theorem dX6_countBits_0 : decode cX6_countBits 0 = .ok (.iload_n 1, 1) := by decide +kernel
theorem dX6_countBits_1 : decode cX6_countBits 1 = .ok (.lookupswitch 37 #[(0, 27), (1, 32)], 27) := by decide +kernel
theorem dX6_countBits_28 : decode cX6_countBits 28 = .ok (.aload_n 0, 1) := by decide +kernel
theorem dX6_countBits_29 : decode cX6_countBits 29 = .ok (.invokevirtual 374, 3) := by decide +kernel
theorem dX6_countBits_32 : decode cX6_countBits 32 = .ok (.ireturn, 1) := by decide +kernel
theorem dX6_countBits_33 : decode cX6_countBits 33 = .ok (.aload_n 0, 1) := by decide +kernel
theorem dX6_countBits_34 : decode cX6_countBits 34 = .ok (.invokevirtual 377, 3) := by decide +kernel
theorem dX6_countBits_37 : decode cX6_countBits 37 = .ok (.ireturn, 1) := by decide +kernel
theorem dX6_countBits_38 : decode cX6_countBits 38 = .ok (.aload_n 0, 1) := by decide +kernel
theorem dX6_countBits_39 : decode cX6_countBits 39 = .ok (.invokevirtual 380, 3) := by decide +kernel
theorem dX6_countBits_42 : decode cX6_countBits 42 = .ok (.ireturn, 1) := by decide +kernel
theorem dX6_rootOf_0 : decode cX6_rootOf 0 = .ok (.iconst 0, 1) := by decide +kernel
theorem dX6_rootOf_1 : decode cX6_rootOf 1 = .ok (.istore_n 1, 1) := by decide +kernel
theorem dX6_rootOf_2 : decode cX6_rootOf 2 = .ok (.iconst 1, 1) := by decide +kernel
theorem dX6_rootOf_3 : decode cX6_rootOf 3 = .ok (.istore_n 2, 1) := by decide +kernel
theorem dX6_rootOf_4 : decode cX6_rootOf 4 = .ok (.iload_n 2, 1) := by decide +kernel
theorem dX6_rootOf_5 : decode cX6_rootOf 5 = .ok (.bipush 10, 2) := by decide +kernel
theorem dX6_rootOf_7 : decode cX6_rootOf 7 = .ok (.if_icmp .gt 18, 3) := by decide +kernel
theorem dX6_rootOf_10 : decode cX6_rootOf 10 = .ok (.iload_n 2, 1) := by decide +kernel
theorem dX6_rootOf_11 : decode cX6_rootOf 11 = .ok (.iload_n 2, 1) := by decide +kernel
theorem dX6_rootOf_12 : decode cX6_rootOf 12 = .ok (.imul, 1) := by decide +kernel
theorem dX6_rootOf_13 : decode cX6_rootOf 13 = .ok (.iload_n 0, 1) := by decide +kernel
theorem dX6_rootOf_14 : decode cX6_rootOf 14 = .ok (.if_icmp .gt 11, 3) := by decide +kernel
theorem dX6_rootOf_17 : decode cX6_rootOf 17 = .ok (.iload_n 2, 1) := by decide +kernel
theorem dX6_rootOf_18 : decode cX6_rootOf 18 = .ok (.istore_n 1, 1) := by decide +kernel
theorem dX6_rootOf_19 : decode cX6_rootOf 19 = .ok (.iinc 2 1, 3) := by decide +kernel
theorem dX6_rootOf_22 : decode cX6_rootOf 22 = .ok (.goto (-18), 3) := by decide +kernel
theorem dX6_rootOf_25 : decode cX6_rootOf 25 = .ok (.iload_n 1, 1) := by decide +kernel
theorem dX6_rootOf_26 : decode cX6_rootOf 26 = .ok (.ireturn, 1) := by decide +kernel
theorem dX6_rootDecimals_0 : decode cX6_rootDecimals 0 = .ok (.iload_n 0, 1) := by decide +kernel
theorem dX6_rootDecimals_1 : decode cX6_rootDecimals 1 = .ok (.invokestatic 78, 3) := by decide +kernel
theorem dX6_rootDecimals_4 : decode cX6_rootDecimals 4 = .ok (.i2l, 1) := by decide +kernel
theorem dX6_rootDecimals_5 : decode cX6_rootDecimals 5 = .ok (.lstore_n 2, 1) := by decide +kernel
theorem dX6_rootDecimals_6 : decode cX6_rootDecimals 6 = .ok (.iload_n 0, 1) := by decide +kernel
theorem dX6_rootDecimals_7 : decode cX6_rootDecimals 7 = .ok (.i2l, 1) := by decide +kernel
theorem dX6_rootDecimals_8 : decode cX6_rootDecimals 8 = .ok (.lload_n 2, 1) := by decide +kernel
theorem dX6_rootDecimals_9 : decode cX6_rootDecimals 9 = .ok (.lload_n 2, 1) := by decide +kernel
theorem dX6_rootDecimals_10 : decode cX6_rootDecimals 10 = .ok (.lmul, 1) := by decide +kernel
theorem dX6_rootDecimals_11 : decode cX6_rootDecimals 11 = .ok (.lsub, 1) := by decide +kernel
theorem dX6_rootDecimals_12 : decode cX6_rootDecimals 12 = .ok (.lstore 4, 2) := by decide +kernel
theorem dX6_rootDecimals_14 : decode cX6_rootDecimals 14 = .ok (.iconst 0, 1) := by decide +kernel
theorem dX6_rootDecimals_15 : decode cX6_rootDecimals 15 = .ok (.istore 6, 2) := by decide +kernel
theorem dX6_rootDecimals_17 : decode cX6_rootDecimals 17 = .ok (.iload 6, 2) := by decide +kernel
theorem dX6_rootDecimals_19 : decode cX6_rootDecimals 19 = .ok (.iload_n 1, 1) := by decide +kernel
theorem dX6_rootDecimals_20 : decode cX6_rootDecimals 20 = .ok (.if_icmp .ge 87, 3) := by decide +kernel
theorem dX6_rootDecimals_23 : decode cX6_rootDecimals 23 = .ok (.lload 4, 2) := by decide +kernel
theorem dX6_rootDecimals_25 : decode cX6_rootDecimals 25 = .ok (.ldc2_w 383, 3) := by decide +kernel
theorem dX6_rootDecimals_28 : decode cX6_rootDecimals 28 = .ok (.lmul, 1) := by decide +kernel
theorem dX6_rootDecimals_29 : decode cX6_rootDecimals 29 = .ok (.lstore 4, 2) := by decide +kernel
theorem dX6_rootDecimals_31 : decode cX6_rootDecimals 31 = .ok (.lconst 0, 1) := by decide +kernel
theorem dX6_rootDecimals_32 : decode cX6_rootDecimals 32 = .ok (.lstore 7, 2) := by decide +kernel
theorem dX6_rootDecimals_34 : decode cX6_rootDecimals 34 = .ok (.lconst 1, 1) := by decide +kernel
theorem dX6_rootDecimals_35 : decode cX6_rootDecimals 35 = .ok (.lstore 9, 2) := by decide +kernel
theorem dX6_rootDecimals_37 : decode cX6_rootDecimals 37 = .ok (.lload 9, 2) := by decide +kernel
theorem dX6_rootDecimals_39 : decode cX6_rootDecimals 39 = .ok (.ldc2_w 150, 3) := by decide +kernel
theorem dX6_rootDecimals_42 : decode cX6_rootDecimals 42 = .ok (.lcmp, 1) := by decide +kernel
theorem dX6_rootDecimals_43 : decode cX6_rootDecimals 43 = .ok (.ifCond .ge 33, 3) := by decide +kernel
theorem dX6_rootDecimals_46 : decode cX6_rootDecimals 46 = .ok (.ldc2_w 385, 3) := by decide +kernel
theorem dX6_rootDecimals_49 : decode cX6_rootDecimals 49 = .ok (.lload_n 2, 1) := by decide +kernel
theorem dX6_rootDecimals_50 : decode cX6_rootDecimals 50 = .ok (.lmul, 1) := by decide +kernel
theorem dX6_rootDecimals_51 : decode cX6_rootDecimals 51 = .ok (.lload 9, 2) := by decide +kernel
theorem dX6_rootDecimals_53 : decode cX6_rootDecimals 53 = .ok (.ladd, 1) := by decide +kernel
theorem dX6_rootDecimals_54 : decode cX6_rootDecimals 54 = .ok (.lload 9, 2) := by decide +kernel
theorem dX6_rootDecimals_56 : decode cX6_rootDecimals 56 = .ok (.lmul, 1) := by decide +kernel
theorem dX6_rootDecimals_57 : decode cX6_rootDecimals 57 = .ok (.lload 4, 2) := by decide +kernel
theorem dX6_rootDecimals_59 : decode cX6_rootDecimals 59 = .ok (.lcmp, 1) := by decide +kernel
theorem dX6_rootDecimals_60 : decode cX6_rootDecimals 60 = .ok (.ifCond .gt 16, 3) := by decide +kernel
theorem dX6_rootDecimals_63 : decode cX6_rootDecimals 63 = .ok (.lload 9, 2) := by decide +kernel
theorem dX6_rootDecimals_65 : decode cX6_rootDecimals 65 = .ok (.lstore 7, 2) := by decide +kernel
theorem dX6_rootDecimals_67 : decode cX6_rootDecimals 67 = .ok (.lload 9, 2) := by decide +kernel
theorem dX6_rootDecimals_69 : decode cX6_rootDecimals 69 = .ok (.lconst 1, 1) := by decide +kernel
theorem dX6_rootDecimals_70 : decode cX6_rootDecimals 70 = .ok (.ladd, 1) := by decide +kernel
theorem dX6_rootDecimals_71 : decode cX6_rootDecimals 71 = .ok (.lstore 9, 2) := by decide +kernel
theorem dX6_rootDecimals_73 : decode cX6_rootDecimals 73 = .ok (.goto (-36), 3) := by decide +kernel
theorem dX6_rootDecimals_76 : decode cX6_rootDecimals 76 = .ok (.lload 4, 2) := by decide +kernel
theorem dX6_rootDecimals_78 : decode cX6_rootDecimals 78 = .ok (.ldc2_w 385, 3) := by decide +kernel
theorem dX6_rootDecimals_81 : decode cX6_rootDecimals 81 = .ok (.lload_n 2, 1) := by decide +kernel
theorem dX6_rootDecimals_82 : decode cX6_rootDecimals 82 = .ok (.lmul, 1) := by decide +kernel
theorem dX6_rootDecimals_83 : decode cX6_rootDecimals 83 = .ok (.lload 7, 2) := by decide +kernel
theorem dX6_rootDecimals_85 : decode cX6_rootDecimals 85 = .ok (.ladd, 1) := by decide +kernel
theorem dX6_rootDecimals_86 : decode cX6_rootDecimals 86 = .ok (.lload 7, 2) := by decide +kernel
theorem dX6_rootDecimals_88 : decode cX6_rootDecimals 88 = .ok (.lmul, 1) := by decide +kernel
theorem dX6_rootDecimals_89 : decode cX6_rootDecimals 89 = .ok (.lsub, 1) := by decide +kernel
theorem dX6_rootDecimals_90 : decode cX6_rootDecimals 90 = .ok (.lstore 4, 2) := by decide +kernel
theorem dX6_rootDecimals_92 : decode cX6_rootDecimals 92 = .ok (.ldc2_w 150, 3) := by decide +kernel
theorem dX6_rootDecimals_95 : decode cX6_rootDecimals 95 = .ok (.lload_n 2, 1) := by decide +kernel
theorem dX6_rootDecimals_96 : decode cX6_rootDecimals 96 = .ok (.lmul, 1) := by decide +kernel
theorem dX6_rootDecimals_97 : decode cX6_rootDecimals 97 = .ok (.lload 7, 2) := by decide +kernel
theorem dX6_rootDecimals_99 : decode cX6_rootDecimals 99 = .ok (.ladd, 1) := by decide +kernel
theorem dX6_rootDecimals_100 : decode cX6_rootDecimals 100 = .ok (.lstore_n 2, 1) := by decide +kernel
theorem dX6_rootDecimals_101 : decode cX6_rootDecimals 101 = .ok (.iinc 6 1, 3) := by decide +kernel
theorem dX6_rootDecimals_104 : decode cX6_rootDecimals 104 = .ok (.goto (-87), 3) := by decide +kernel
theorem dX6_rootDecimals_107 : decode cX6_rootDecimals 107 = .ok (.lload_n 2, 1) := by decide +kernel
theorem dX6_rootDecimals_108 : decode cX6_rootDecimals 108 = .ok (.lreturn, 1) := by decide +kernel
theorem dX6_setSolution_0 : decode cX6_setSolution 0 = .ok (.aload_n 0, 1) := by decide +kernel
theorem dX6_setSolution_1 : decode cX6_setSolution 1 = .ok (.getfield 30, 3) := by decide +kernel
theorem dX6_setSolution_4 : decode cX6_setSolution 4 = .ok (.iload_n 2, 1) := by decide +kernel
theorem dX6_setSolution_5 : decode cX6_setSolution 5 = .ok (.invokevirtual 152, 3) := by decide +kernel
theorem dX6_setSolution_8 : decode cX6_setSolution 8 = .ok (.aload_n 0, 1) := by decide +kernel
theorem dX6_setSolution_9 : decode cX6_setSolution 9 = .ok (.getfield 30, 3) := by decide +kernel
theorem dX6_setSolution_12 : decode cX6_setSolution 12 = .ok (.invokevirtual 175, 3) := by decide +kernel
theorem dX6_setSolution_15 : decode cX6_setSolution 15 = .ok (.istore_n 3, 1) := by decide +kernel
theorem dX6_setSolution_16 : decode cX6_setSolution 16 = .ok (.aload_n 1, 1) := by decide +kernel
theorem dX6_setSolution_17 : decode cX6_setSolution 17 = .ok (.iload_n 2, 1) := by decide +kernel
theorem dX6_setSolution_18 : decode cX6_setSolution 18 = .ok (.aload_n 0, 1) := by decide +kernel
theorem dX6_setSolution_19 : decode cX6_setSolution 19 = .ok (.getfield 30, 3) := by decide +kernel
theorem dX6_setSolution_22 : decode cX6_setSolution 22 = .ok (.iload_n 3, 1) := by decide +kernel
theorem dX6_setSolution_23 : decode cX6_setSolution 23 = .ok (.invokevirtual 119, 3) := by decide +kernel
theorem dX6_setSolution_26 : decode cX6_setSolution 26 = .ok (.aload_n 0, 1) := by decide +kernel
theorem dX6_setSolution_27 : decode cX6_setSolution 27 = .ok (.getfield 30, 3) := by decide +kernel
theorem dX6_setSolution_30 : decode cX6_setSolution 30 = .ok (.iload_n 3, 1) := by decide +kernel
theorem dX6_setSolution_31 : decode cX6_setSolution 31 = .ok (.invokevirtual 123, 3) := by decide +kernel
theorem dX6_setSolution_34 : decode cX6_setSolution 34 = .ok (.invokevirtual 197, 3) := by decide +kernel
theorem dX6_setSolution_37 : decode cX6_setSolution 37 = .ok (.return_, 1) := by decide +kernel
theorem dX6_becomeDraft_0 : decode cX6_becomeDraft 0 = .ok (.aload_n 0, 1) := by decide +kernel
theorem dX6_becomeDraft_1 : decode cX6_becomeDraft 1 = .ok (.getfield 42, 3) := by decide +kernel
theorem dX6_becomeDraft_4 : decode cX6_becomeDraft 4 = .ok (.invokevirtual 387, 3) := by decide +kernel
theorem dX6_becomeDraft_7 : decode cX6_becomeDraft 7 = .ok (.ifCond .eq 8, 3) := by decide +kernel
theorem dX6_becomeDraft_10 : decode cX6_becomeDraft 10 = .ok (.aload_n 0, 1) := by decide +kernel
theorem dX6_becomeDraft_11 : decode cX6_becomeDraft 11 = .ok (.invokevirtual 86, 3) := by decide +kernel
theorem dX6_becomeDraft_14 : decode cX6_becomeDraft 14 = .ok (.ireturn, 1) := by decide +kernel
theorem dX6_becomeDraft_15 : decode cX6_becomeDraft 15 = .ok (.aload_n 0, 1) := by decide +kernel
theorem dX6_becomeDraft_16 : decode cX6_becomeDraft 16 = .ok (.dup, 1) := by decide +kernel
theorem dX6_becomeDraft_17 : decode cX6_becomeDraft 17 = .ok (.getfield 302, 3) := by decide +kernel
theorem dX6_becomeDraft_20 : decode cX6_becomeDraft 20 = .ok (.iconst 1, 1) := by decide +kernel
theorem dX6_becomeDraft_21 : decode cX6_becomeDraft 21 = .ok (.iadd, 1) := by decide +kernel
theorem dX6_becomeDraft_22 : decode cX6_becomeDraft 22 = .ok (.putfield 302, 3) := by decide +kernel
theorem dX6_becomeDraft_25 : decode cX6_becomeDraft 25 = .ok (.aload_n 1, 1) := by decide +kernel
theorem dX6_becomeDraft_26 : decode cX6_becomeDraft 26 = .ok (.aload_n 0, 1) := by decide +kernel
theorem dX6_becomeDraft_27 : decode cX6_becomeDraft 27 = .ok (.getfield 42, 3) := by decide +kernel
theorem dX6_becomeDraft_30 : decode cX6_becomeDraft 30 = .ok (.invokevirtual 248, 3) := by decide +kernel
theorem dX6_becomeDraft_33 : decode cX6_becomeDraft 33 = .ok (.ifCond .eq 5, 3) := by decide +kernel
theorem dX6_becomeDraft_36 : decode cX6_becomeDraft 36 = .ok (.iconst 0, 1) := by decide +kernel
theorem dX6_becomeDraft_37 : decode cX6_becomeDraft 37 = .ok (.ireturn, 1) := by decide +kernel
theorem dX6_becomeDraft_38 : decode cX6_becomeDraft 38 = .ok (.aload_n 1, 1) := by decide +kernel
theorem dX6_becomeDraft_39 : decode cX6_becomeDraft 39 = .ok (.aload_n 0, 1) := by decide +kernel
theorem dX6_becomeDraft_40 : decode cX6_becomeDraft 40 = .ok (.getfield 42, 3) := by decide +kernel
theorem dX6_becomeDraft_43 : decode cX6_becomeDraft 43 = .ok (.invokevirtual 214, 3) := by decide +kernel
theorem dX6_becomeDraft_46 : decode cX6_becomeDraft 46 = .ok (.iconst 1, 1) := by decide +kernel
theorem dX6_becomeDraft_47 : decode cX6_becomeDraft 47 = .ok (.ireturn, 1) := by decide +kernel
theorem dX6_multiplyDraft_0 : decode cX6_multiplyDraft 0 = .ok (.aload_n 0, 1) := by decide +kernel
theorem dX6_multiplyDraft_1 : decode cX6_multiplyDraft 1 = .ok (.getfield 37, 3) := by decide +kernel
theorem dX6_multiplyDraft_4 : decode cX6_multiplyDraft 4 = .ok (.aload_n 0, 1) := by decide +kernel
theorem dX6_multiplyDraft_5 : decode cX6_multiplyDraft 5 = .ok (.getfield 42, 3) := by decide +kernel
theorem dX6_multiplyDraft_8 : decode cX6_multiplyDraft 8 = .ok (.aload_n 1, 1) := by decide +kernel
theorem dX6_multiplyDraft_9 : decode cX6_multiplyDraft 9 = .ok (.aload_n 0, 1) := by decide +kernel
theorem dX6_multiplyDraft_10 : decode cX6_multiplyDraft 10 = .ok (.getfield 46, 3) := by decide +kernel
theorem dX6_multiplyDraft_13 : decode cX6_multiplyDraft 13 = .ok (.invokevirtual 206, 3) := by decide +kernel
theorem dX6_multiplyDraft_16 : decode cX6_multiplyDraft 16 = .ok (.aload_n 0, 1) := by decide +kernel
theorem dX6_multiplyDraft_17 : decode cX6_multiplyDraft 17 = .ok (.getfield 42, 3) := by decide +kernel
theorem dX6_multiplyDraft_20 : decode cX6_multiplyDraft 20 = .ok (.aload_n 0, 1) := by decide +kernel
theorem dX6_multiplyDraft_21 : decode cX6_multiplyDraft 21 = .ok (.getfield 46, 3) := by decide +kernel
theorem dX6_multiplyDraft_24 : decode cX6_multiplyDraft 24 = .ok (.invokevirtual 214, 3) := by decide +kernel
theorem dX6_multiplyDraft_27 : decode cX6_multiplyDraft 27 = .ok (.return_, 1) := by decide +kernel
theorem dX6_runWay_0 : decode cX6_runWay 0 = .ok (.aload_n 0, 1) := by decide +kernel
theorem dX6_runWay_1 : decode cX6_runWay 1 = .ok (.aload_n 1, 1) := by decide +kernel
theorem dX6_runWay_2 : decode cX6_runWay 2 = .ok (.getfield 288, 3) := by decide +kernel
theorem dX6_runWay_5 : decode cX6_runWay 5 = .ok (.invokevirtual 255, 3) := by decide +kernel
theorem dX6_runWay_8 : decode cX6_runWay 8 = .ok (.aload_n 0, 1) := by decide +kernel
theorem dX6_runWay_9 : decode cX6_runWay 9 = .ok (.invokevirtual 270, 3) := by decide +kernel
theorem dX6_runWay_12 : decode cX6_runWay 12 = .ok (.pop, 1) := by decide +kernel
theorem dX6_runWay_13 : decode cX6_runWay 13 = .ok (.return_, 1) := by decide +kernel
theorem dX6_hasTwoDivisors_0 : decode cX6_hasTwoDivisors 0 = .ok (.iconst 2, 1) := by decide +kernel
theorem dX6_hasTwoDivisors_1 : decode cX6_hasTwoDivisors 1 = .ok (.istore_n 1, 1) := by decide +kernel
theorem dX6_hasTwoDivisors_2 : decode cX6_hasTwoDivisors 2 = .ok (.iload_n 1, 1) := by decide +kernel
theorem dX6_hasTwoDivisors_3 : decode cX6_hasTwoDivisors 3 = .ok (.iload_n 0, 1) := by decide +kernel
theorem dX6_hasTwoDivisors_4 : decode cX6_hasTwoDivisors 4 = .ok (.if_icmp .gt 24, 3) := by decide +kernel
theorem dX6_hasTwoDivisors_7 : decode cX6_hasTwoDivisors 7 = .ok (.iload_n 1, 1) := by decide +kernel
theorem dX6_hasTwoDivisors_8 : decode cX6_hasTwoDivisors 8 = .ok (.iload_n 1, 1) := by decide +kernel
theorem dX6_hasTwoDivisors_9 : decode cX6_hasTwoDivisors 9 = .ok (.imul, 1) := by decide +kernel
theorem dX6_hasTwoDivisors_10 : decode cX6_hasTwoDivisors 10 = .ok (.iload_n 0, 1) := by decide +kernel
theorem dX6_hasTwoDivisors_11 : decode cX6_hasTwoDivisors 11 = .ok (.if_icmp .gt 17, 3) := by decide +kernel
theorem dX6_hasTwoDivisors_14 : decode cX6_hasTwoDivisors 14 = .ok (.iload_n 0, 1) := by decide +kernel
theorem dX6_hasTwoDivisors_15 : decode cX6_hasTwoDivisors 15 = .ok (.iload_n 1, 1) := by decide +kernel
theorem dX6_hasTwoDivisors_16 : decode cX6_hasTwoDivisors 16 = .ok (.irem, 1) := by decide +kernel
theorem dX6_hasTwoDivisors_17 : decode cX6_hasTwoDivisors 17 = .ok (.ifCond .ne 5, 3) := by decide +kernel
theorem dX6_hasTwoDivisors_20 : decode cX6_hasTwoDivisors 20 = .ok (.iconst 0, 1) := by decide +kernel
theorem dX6_hasTwoDivisors_21 : decode cX6_hasTwoDivisors 21 = .ok (.ireturn, 1) := by decide +kernel
theorem dX6_hasTwoDivisors_22 : decode cX6_hasTwoDivisors 22 = .ok (.iinc 1 1, 3) := by decide +kernel
theorem dX6_hasTwoDivisors_25 : decode cX6_hasTwoDivisors 25 = .ok (.goto (-23), 3) := by decide +kernel
theorem dX6_hasTwoDivisors_28 : decode cX6_hasTwoDivisors 28 = .ok (.iload_n 0, 1) := by decide +kernel
theorem dX6_hasTwoDivisors_29 : decode cX6_hasTwoDivisors 29 = .ok (.iconst 2, 1) := by decide +kernel
theorem dX6_hasTwoDivisors_30 : decode cX6_hasTwoDivisors 30 = .ok (.if_icmp .lt 7, 3) := by decide +kernel
theorem dX6_hasTwoDivisors_33 : decode cX6_hasTwoDivisors 33 = .ok (.iconst 1, 1) := by decide +kernel
theorem dX6_hasTwoDivisors_34 : decode cX6_hasTwoDivisors 34 = .ok (.goto 4, 3) := by decide +kernel
theorem dX6_hasTwoDivisors_37 : decode cX6_hasTwoDivisors 37 = .ok (.iconst 0, 1) := by decide +kernel
theorem dX6_hasTwoDivisors_38 : decode cX6_hasTwoDivisors 38 = .ok (.ireturn, 1) := by decide +kernel
theorem dX6_isSplittable_0 : decode cX6_isSplittable 0 = .ok (.iload_n 0, 1) := by decide +kernel
theorem dX6_isSplittable_1 : decode cX6_isSplittable 1 = .ok (.iconst 5, 1) := by decide +kernel
theorem dX6_isSplittable_2 : decode cX6_isSplittable 2 = .ok (.if_icmp .lt 28, 3) := by decide +kernel
theorem dX6_isSplittable_5 : decode cX6_isSplittable 5 = .ok (.iload_n 0, 1) := by decide +kernel
theorem dX6_isSplittable_6 : decode cX6_isSplittable 6 = .ok (.sipush 997, 3) := by decide +kernel
theorem dX6_isSplittable_9 : decode cX6_isSplittable 9 = .ok (.if_icmp .gt 21, 3) := by decide +kernel
theorem dX6_isSplittable_12 : decode cX6_isSplittable 12 = .ok (.iload_n 0, 1) := by decide +kernel
theorem dX6_isSplittable_13 : decode cX6_isSplittable 13 = .ok (.iconst 4, 1) := by decide +kernel
theorem dX6_isSplittable_14 : decode cX6_isSplittable 14 = .ok (.irem, 1) := by decide +kernel
theorem dX6_isSplittable_15 : decode cX6_isSplittable 15 = .ok (.iconst 1, 1) := by decide +kernel
theorem dX6_isSplittable_16 : decode cX6_isSplittable 16 = .ok (.if_icmp .ne 14, 3) := by decide +kernel
theorem dX6_isSplittable_19 : decode cX6_isSplittable 19 = .ok (.iload_n 0, 1) := by decide +kernel
theorem dX6_isSplittable_20 : decode cX6_isSplittable 20 = .ok (.invokestatic 299, 3) := by decide +kernel
theorem dX6_isSplittable_23 : decode cX6_isSplittable 23 = .ok (.ifCond .eq 7, 3) := by decide +kernel
theorem dX6_isSplittable_26 : decode cX6_isSplittable 26 = .ok (.iconst 1, 1) := by decide +kernel
theorem dX6_isSplittable_27 : decode cX6_isSplittable 27 = .ok (.goto 4, 3) := by decide +kernel
theorem dX6_isSplittable_30 : decode cX6_isSplittable 30 = .ok (.iconst 0, 1) := by decide +kernel
theorem dX6_isSplittable_31 : decode cX6_isSplittable 31 = .ok (.ireturn, 1) := by decide +kernel
theorem dX6_rest_0 : decode cX6_rest 0 = .ok (.iload_n 2, 1) := by decide +kernel
theorem dX6_rest_1 : decode cX6_rest 1 = .ok (.iconst 1, 1) := by decide +kernel
theorem dX6_rest_2 : decode cX6_rest 2 = .ok (.if_icmp .ge 7, 3) := by decide +kernel
theorem dX6_rest_5 : decode cX6_rest 5 = .ok (.iconst 0, 1) := by decide +kernel
theorem dX6_rest_6 : decode cX6_rest 6 = .ok (.goto 10, 3) := by decide +kernel
theorem dX6_rest_9 : decode cX6_rest 9 = .ok (.lload_n 0, 1) := by decide +kernel
theorem dX6_rest_10 : decode cX6_rest 10 = .ok (.iload_n 2, 1) := by decide +kernel
theorem dX6_rest_11 : decode cX6_rest 11 = .ok (.i2l, 1) := by decide +kernel
theorem dX6_rest_12 : decode cX6_rest 12 = .ok (.invokestatic 390, 3) := by decide +kernel
theorem dX6_rest_15 : decode cX6_rest 15 = .ok (.l2i, 1) := by decide +kernel
theorem dX6_rest_16 : decode cX6_rest 16 = .ok (.ireturn, 1) := by decide +kernel
theorem dX6_restOfPower_0 : decode cX6_restOfPower 0 = .ok (.lconst 1, 1) := by decide +kernel
theorem dX6_restOfPower_1 : decode cX6_restOfPower 1 = .ok (.lstore_n 3, 1) := by decide +kernel
theorem dX6_restOfPower_2 : decode cX6_restOfPower 2 = .ok (.iload_n 0, 1) := by decide +kernel
theorem dX6_restOfPower_3 : decode cX6_restOfPower 3 = .ok (.i2l, 1) := by decide +kernel
theorem dX6_restOfPower_4 : decode cX6_restOfPower 4 = .ok (.iload_n 2, 1) := by decide +kernel
theorem dX6_restOfPower_5 : decode cX6_restOfPower 5 = .ok (.invokestatic 291, 3) := by decide +kernel
theorem dX6_restOfPower_8 : decode cX6_restOfPower 8 = .ok (.i2l, 1) := by decide +kernel
theorem dX6_restOfPower_9 : decode cX6_restOfPower 9 = .ok (.lstore 5, 2) := by decide +kernel
theorem dX6_restOfPower_11 : decode cX6_restOfPower 11 = .ok (.iconst 0, 1) := by decide +kernel
theorem dX6_restOfPower_12 : decode cX6_restOfPower 12 = .ok (.istore 7, 2) := by decide +kernel
theorem dX6_restOfPower_14 : decode cX6_restOfPower 14 = .ok (.iload 7, 2) := by decide +kernel
theorem dX6_restOfPower_16 : decode cX6_restOfPower 16 = .ok (.bipush 10, 2) := by decide +kernel
theorem dX6_restOfPower_18 : decode cX6_restOfPower 18 = .ok (.if_icmp .ge 41, 3) := by decide +kernel
theorem dX6_restOfPower_21 : decode cX6_restOfPower 21 = .ok (.iload_n 1, 1) := by decide +kernel
theorem dX6_restOfPower_22 : decode cX6_restOfPower 22 = .ok (.iload 7, 2) := by decide +kernel
theorem dX6_restOfPower_24 : decode cX6_restOfPower 24 = .ok (.ishr, 1) := by decide +kernel
theorem dX6_restOfPower_25 : decode cX6_restOfPower 25 = .ok (.iconst 1, 1) := by decide +kernel
theorem dX6_restOfPower_26 : decode cX6_restOfPower 26 = .ok (.iand, 1) := by decide +kernel
theorem dX6_restOfPower_27 : decode cX6_restOfPower 27 = .ok (.iconst 1, 1) := by decide +kernel
theorem dX6_restOfPower_28 : decode cX6_restOfPower 28 = .ok (.if_icmp .ne 13, 3) := by decide +kernel
theorem dX6_restOfPower_31 : decode cX6_restOfPower 31 = .ok (.lload_n 3, 1) := by decide +kernel
theorem dX6_restOfPower_32 : decode cX6_restOfPower 32 = .ok (.lload 5, 2) := by decide +kernel
theorem dX6_restOfPower_34 : decode cX6_restOfPower 34 = .ok (.lmul, 1) := by decide +kernel
theorem dX6_restOfPower_35 : decode cX6_restOfPower 35 = .ok (.iload_n 2, 1) := by decide +kernel
theorem dX6_restOfPower_36 : decode cX6_restOfPower 36 = .ok (.invokestatic 291, 3) := by decide +kernel
theorem dX6_restOfPower_39 : decode cX6_restOfPower 39 = .ok (.i2l, 1) := by decide +kernel
theorem dX6_restOfPower_40 : decode cX6_restOfPower 40 = .ok (.lstore_n 3, 1) := by decide +kernel
theorem dX6_restOfPower_41 : decode cX6_restOfPower 41 = .ok (.lload 5, 2) := by decide +kernel
theorem dX6_restOfPower_43 : decode cX6_restOfPower 43 = .ok (.lload 5, 2) := by decide +kernel
theorem dX6_restOfPower_45 : decode cX6_restOfPower 45 = .ok (.lmul, 1) := by decide +kernel
theorem dX6_restOfPower_46 : decode cX6_restOfPower 46 = .ok (.iload_n 2, 1) := by decide +kernel
theorem dX6_restOfPower_47 : decode cX6_restOfPower 47 = .ok (.invokestatic 291, 3) := by decide +kernel
theorem dX6_restOfPower_50 : decode cX6_restOfPower 50 = .ok (.i2l, 1) := by decide +kernel
theorem dX6_restOfPower_51 : decode cX6_restOfPower 51 = .ok (.lstore 5, 2) := by decide +kernel
theorem dX6_restOfPower_53 : decode cX6_restOfPower 53 = .ok (.iinc 7 1, 3) := by decide +kernel
theorem dX6_restOfPower_56 : decode cX6_restOfPower 56 = .ok (.goto (-42), 3) := by decide +kernel
theorem dX6_restOfPower_59 : decode cX6_restOfPower 59 = .ok (.lload_n 3, 1) := by decide +kernel
theorem dX6_restOfPower_60 : decode cX6_restOfPower 60 = .ok (.l2i, 1) := by decide +kernel
theorem dX6_restOfPower_61 : decode cX6_restOfPower 61 = .ok (.ireturn, 1) := by decide +kernel
theorem dX6_isWalkSound_0 : decode cX6_isWalkSound 0 = .ok (.aload_n 1, 1) := by decide +kernel
theorem dX6_isWalkSound_1 : decode cX6_isWalkSound 1 = .ok (.getfield 72, 3) := by decide +kernel
theorem dX6_isWalkSound_4 : decode cX6_isWalkSound 4 = .ok (.istore_n 2, 1) := by decide +kernel
theorem dX6_isWalkSound_5 : decode cX6_isWalkSound 5 = .ok (.iload_n 2, 1) := by decide +kernel
theorem dX6_isWalkSound_6 : decode cX6_isWalkSound 6 = .ok (.iconst 2, 1) := by decide +kernel
theorem dX6_isWalkSound_7 : decode cX6_isWalkSound 7 = .ok (.irem, 1) := by decide +kernel
theorem dX6_isWalkSound_8 : decode cX6_isWalkSound 8 = .ok (.iconst 1, 1) := by decide +kernel
theorem dX6_isWalkSound_9 : decode cX6_isWalkSound 9 = .ok (.if_icmp .ne 7, 3) := by decide +kernel
theorem dX6_isWalkSound_12 : decode cX6_isWalkSound 12 = .ok (.iconst 1, 1) := by decide +kernel
theorem dX6_isWalkSound_13 : decode cX6_isWalkSound 13 = .ok (.goto 4, 3) := by decide +kernel
theorem dX6_isWalkSound_16 : decode cX6_isWalkSound 16 = .ok (.iconst (-1), 1) := by decide +kernel
theorem dX6_isWalkSound_17 : decode cX6_isWalkSound 17 = .ok (.istore_n 3, 1) := by decide +kernel
theorem dX6_isWalkSound_18 : decode cX6_isWalkSound 18 = .ok (.aload_n 0, 1) := by decide +kernel
theorem dX6_isWalkSound_19 : decode cX6_isWalkSound 19 = .ok (.getfield 30, 3) := by decide +kernel
theorem dX6_isWalkSound_22 : decode cX6_isWalkSound 22 = .ok (.iload_n 2, 1) := by decide +kernel
theorem dX6_isWalkSound_23 : decode cX6_isWalkSound 23 = .ok (.invokevirtual 184, 3) := by decide +kernel
theorem dX6_isWalkSound_26 : decode cX6_isWalkSound 26 = .ok (.istore 4, 2) := by decide +kernel
theorem dX6_isWalkSound_28 : decode cX6_isWalkSound 28 = .ok (.aload_n 0, 1) := by decide +kernel
theorem dX6_isWalkSound_29 : decode cX6_isWalkSound 29 = .ok (.getfield 30, 3) := by decide +kernel
theorem dX6_isWalkSound_32 : decode cX6_isWalkSound 32 = .ok (.iload_n 2, 1) := by decide +kernel
theorem dX6_isWalkSound_33 : decode cX6_isWalkSound 33 = .ok (.invokevirtual 187, 3) := by decide +kernel
theorem dX6_isWalkSound_36 : decode cX6_isWalkSound 36 = .ok (.istore 5, 2) := by decide +kernel
theorem dX6_isWalkSound_38 : decode cX6_isWalkSound 38 = .ok (.aload_n 0, 1) := by decide +kernel
theorem dX6_isWalkSound_39 : decode cX6_isWalkSound 39 = .ok (.getfield 30, 3) := by decide +kernel
theorem dX6_isWalkSound_42 : decode cX6_isWalkSound 42 = .ok (.iload_n 2, 1) := by decide +kernel
theorem dX6_isWalkSound_43 : decode cX6_isWalkSound 43 = .ok (.invokevirtual 119, 3) := by decide +kernel
theorem dX6_isWalkSound_46 : decode cX6_isWalkSound 46 = .ok (.astore 6, 2) := by decide +kernel
theorem dX6_isWalkSound_48 : decode cX6_isWalkSound 48 = .ok (.aload_n 0, 1) := by decide +kernel
theorem dX6_isWalkSound_49 : decode cX6_isWalkSound 49 = .ok (.getfield 30, 3) := by decide +kernel
theorem dX6_isWalkSound_52 : decode cX6_isWalkSound 52 = .ok (.iload_n 2, 1) := by decide +kernel
theorem dX6_isWalkSound_53 : decode cX6_isWalkSound 53 = .ok (.invokevirtual 123, 3) := by decide +kernel
theorem dX6_isWalkSound_56 : decode cX6_isWalkSound 56 = .ok (.astore 7, 2) := by decide +kernel
theorem dX6_isWalkSound_58 : decode cX6_isWalkSound 58 = .ok (.iload 4, 2) := by decide +kernel
theorem dX6_isWalkSound_60 : decode cX6_isWalkSound 60 = .ok (.ifCond .lt 127, 3) := by decide +kernel
theorem dX6_isWalkSound_63 : decode cX6_isWalkSound 63 = .ok (.iload 4, 2) := by decide +kernel
theorem dX6_isWalkSound_65 : decode cX6_isWalkSound 65 = .ok (.aload_n 0, 1) := by decide +kernel
theorem dX6_isWalkSound_66 : decode cX6_isWalkSound 66 = .ok (.getfield 30, 3) := by decide +kernel
theorem dX6_isWalkSound_69 : decode cX6_isWalkSound 69 = .ok (.getfield 355, 3) := by decide +kernel
theorem dX6_isWalkSound_72 : decode cX6_isWalkSound 72 = .ok (.if_icmp .gt 115, 3) := by decide +kernel
theorem dX6_isWalkSound_75 : decode cX6_isWalkSound 75 = .ok (.iload 5, 2) := by decide +kernel
theorem dX6_isWalkSound_77 : decode cX6_isWalkSound 77 = .ok (.iconst 1, 1) := by decide +kernel
theorem dX6_isWalkSound_78 : decode cX6_isWalkSound 78 = .ok (.if_icmp .lt 109, 3) := by decide +kernel
theorem dX6_isWalkSound_81 : decode cX6_isWalkSound 81 = .ok (.iload 5, 2) := by decide +kernel
theorem dX6_isWalkSound_83 : decode cX6_isWalkSound 83 = .ok (.iconst 2, 1) := by decide +kernel
theorem dX6_isWalkSound_84 : decode cX6_isWalkSound 84 = .ok (.aload_n 0, 1) := by decide +kernel
theorem dX6_isWalkSound_85 : decode cX6_isWalkSound 85 = .ok (.getfield 30, 3) := by decide +kernel
theorem dX6_isWalkSound_88 : decode cX6_isWalkSound 88 = .ok (.getfield 355, 3) := by decide +kernel
theorem dX6_isWalkSound_91 : decode cX6_isWalkSound 91 = .ok (.imul, 1) := by decide +kernel
theorem dX6_isWalkSound_92 : decode cX6_isWalkSound 92 = .ok (.if_icmp .gt 95, 3) := by decide +kernel
theorem dX6_isWalkSound_95 : decode cX6_isWalkSound 95 = .ok (.aload_n 0, 1) := by decide +kernel
theorem dX6_isWalkSound_96 : decode cX6_isWalkSound 96 = .ok (.getfield 37, 3) := by decide +kernel
theorem dX6_isWalkSound_99 : decode cX6_isWalkSound 99 = .ok (.aload 6, 2) := by decide +kernel
theorem dX6_isWalkSound_101 : decode cX6_isWalkSound 101 = .ok (.aload 7, 2) := by decide +kernel
theorem dX6_isWalkSound_103 : decode cX6_isWalkSound 103 = .ok (.invokevirtual 358, 3) := by decide +kernel
theorem dX6_isWalkSound_106 : decode cX6_isWalkSound 106 = .ok (.invokevirtual 238, 3) := by decide +kernel
theorem dX6_isWalkSound_109 : decode cX6_isWalkSound 109 = .ok (.ifCond .eq 78, 3) := by decide +kernel
theorem dX6_isWalkSound_112 : decode cX6_isWalkSound 112 = .ok (.aload_n 0, 1) := by decide +kernel
theorem dX6_isWalkSound_113 : decode cX6_isWalkSound 113 = .ok (.getfield 37, 3) := by decide +kernel
theorem dX6_isWalkSound_116 : decode cX6_isWalkSound 116 = .ok (.aload 6, 2) := by decide +kernel
theorem dX6_isWalkSound_118 : decode cX6_isWalkSound 118 = .ok (.aload 7, 2) := by decide +kernel
theorem dX6_isWalkSound_120 : decode cX6_isWalkSound 120 = .ok (.aload_n 0, 1) := by decide +kernel
theorem dX6_isWalkSound_121 : decode cX6_isWalkSound 121 = .ok (.getfield 30, 3) := by decide +kernel
theorem dX6_isWalkSound_124 : decode cX6_isWalkSound 124 = .ok (.iload_n 2, 1) := by decide +kernel
theorem dX6_isWalkSound_125 : decode cX6_isWalkSound 125 = .ok (.iconst 1, 1) := by decide +kernel
theorem dX6_isWalkSound_126 : decode cX6_isWalkSound 126 = .ok (.isub, 1) := by decide +kernel
theorem dX6_isWalkSound_127 : decode cX6_isWalkSound 127 = .ok (.invokevirtual 119, 3) := by decide +kernel
theorem dX6_isWalkSound_130 : decode cX6_isWalkSound 130 = .ok (.aload_n 0, 1) := by decide +kernel
theorem dX6_isWalkSound_131 : decode cX6_isWalkSound 131 = .ok (.getfield 30, 3) := by decide +kernel
theorem dX6_isWalkSound_134 : decode cX6_isWalkSound 134 = .ok (.iload_n 2, 1) := by decide +kernel
theorem dX6_isWalkSound_135 : decode cX6_isWalkSound 135 = .ok (.iconst 1, 1) := by decide +kernel
theorem dX6_isWalkSound_136 : decode cX6_isWalkSound 136 = .ok (.isub, 1) := by decide +kernel
theorem dX6_isWalkSound_137 : decode cX6_isWalkSound 137 = .ok (.invokevirtual 123, 3) := by decide +kernel
theorem dX6_isWalkSound_140 : decode cX6_isWalkSound 140 = .ok (.invokevirtual 366, 3) := by decide +kernel
theorem dX6_isWalkSound_143 : decode cX6_isWalkSound 143 = .ok (.iload_n 3, 1) := by decide +kernel
theorem dX6_isWalkSound_144 : decode cX6_isWalkSound 144 = .ok (.invokevirtual 393, 3) := by decide +kernel
theorem dX6_isWalkSound_147 : decode cX6_isWalkSound 147 = .ok (.ifCond .eq 40, 3) := by decide +kernel
theorem dX6_isWalkSound_150 : decode cX6_isWalkSound 150 = .ok (.aload_n 0, 1) := by decide +kernel
theorem dX6_isWalkSound_151 : decode cX6_isWalkSound 151 = .ok (.getfield 37, 3) := by decide +kernel
theorem dX6_isWalkSound_154 : decode cX6_isWalkSound 154 = .ok (.aload_n 1, 1) := by decide +kernel
theorem dX6_isWalkSound_155 : decode cX6_isWalkSound 155 = .ok (.getfield 68, 3) := by decide +kernel
theorem dX6_isWalkSound_158 : decode cX6_isWalkSound 158 = .ok (.aload 6, 2) := by decide +kernel
theorem dX6_isWalkSound_160 : decode cX6_isWalkSound 160 = .ok (.aload 7, 2) := by decide +kernel
theorem dX6_isWalkSound_162 : decode cX6_isWalkSound 162 = .ok (.invokevirtual 234, 3) := by decide +kernel
theorem dX6_isWalkSound_165 : decode cX6_isWalkSound 165 = .ok (.iload_n 3, 1) := by decide +kernel
theorem dX6_isWalkSound_166 : decode cX6_isWalkSound 166 = .ok (.aload_n 0, 1) := by decide +kernel
theorem dX6_isWalkSound_167 : decode cX6_isWalkSound 167 = .ok (.getfield 30, 3) := by decide +kernel
theorem dX6_isWalkSound_170 : decode cX6_isWalkSound 170 = .ok (.iload_n 2, 1) := by decide +kernel
theorem dX6_isWalkSound_171 : decode cX6_isWalkSound 171 = .ok (.iconst 1, 1) := by decide +kernel
theorem dX6_isWalkSound_172 : decode cX6_isWalkSound 172 = .ok (.iadd, 1) := by decide +kernel
theorem dX6_isWalkSound_173 : decode cX6_isWalkSound 173 = .ok (.invokevirtual 187, 3) := by decide +kernel
theorem dX6_isWalkSound_176 : decode cX6_isWalkSound 176 = .ok (.imul, 1) := by decide +kernel
theorem dX6_isWalkSound_177 : decode cX6_isWalkSound 177 = .ok (.invokevirtual 393, 3) := by decide +kernel
theorem dX6_isWalkSound_180 : decode cX6_isWalkSound 180 = .ok (.ifCond .eq 7, 3) := by decide +kernel
theorem dX6_isWalkSound_183 : decode cX6_isWalkSound 183 = .ok (.iconst 1, 1) := by decide +kernel
theorem dX6_isWalkSound_184 : decode cX6_isWalkSound 184 = .ok (.goto 4, 3) := by decide +kernel
theorem dX6_isWalkSound_187 : decode cX6_isWalkSound 187 = .ok (.iconst 0, 1) := by decide +kernel
theorem dX6_isWalkSound_188 : decode cX6_isWalkSound 188 = .ok (.ireturn, 1) := by decide +kernel
theorem dX6_isPairSound_0 : decode cX6_isPairSound 0 = .ok (.aload_n 1, 1) := by decide +kernel
theorem dX6_isPairSound_1 : decode cX6_isPairSound 1 = .ok (.getfield 224, 3) := by decide +kernel
theorem dX6_isPairSound_4 : decode cX6_isPairSound 4 = .ok (.invokevirtual 396, 3) := by decide +kernel
theorem dX6_isPairSound_7 : decode cX6_isPairSound 7 = .ok (.ifCond .eq 17, 3) := by decide +kernel
theorem dX6_isPairSound_10 : decode cX6_isPairSound 10 = .ok (.aload_n 1, 1) := by decide +kernel
theorem dX6_isPairSound_11 : decode cX6_isPairSound 11 = .ok (.getfield 217, 3) := by decide +kernel
theorem dX6_isPairSound_14 : decode cX6_isPairSound 14 = .ok (.invokevirtual 396, 3) := by decide +kernel
theorem dX6_isPairSound_17 : decode cX6_isPairSound 17 = .ok (.ifCond .eq 7, 3) := by decide +kernel
theorem dX6_isPairSound_20 : decode cX6_isPairSound 20 = .ok (.iconst 1, 1) := by decide +kernel
theorem dX6_isPairSound_21 : decode cX6_isPairSound 21 = .ok (.goto 4, 3) := by decide +kernel
theorem dX6_isPairSound_24 : decode cX6_isPairSound 24 = .ok (.iconst 0, 1) := by decide +kernel
theorem dX6_isPairSound_25 : decode cX6_isPairSound 25 = .ok (.istore_n 2, 1) := by decide +kernel
theorem dX6_isPairSound_26 : decode cX6_isPairSound 26 = .ok (.aload_n 1, 1) := by decide +kernel
theorem dX6_isPairSound_27 : decode cX6_isPairSound 27 = .ok (.invokevirtual 387, 3) := by decide +kernel
theorem dX6_isPairSound_30 : decode cX6_isPairSound 30 = .ok (.ifCond .ne 33, 3) := by decide +kernel
theorem dX6_isPairSound_33 : decode cX6_isPairSound 33 = .ok (.aload_n 0, 1) := by decide +kernel
theorem dX6_isPairSound_34 : decode cX6_isPairSound 34 = .ok (.getfield 37, 3) := by decide +kernel
theorem dX6_isPairSound_37 : decode cX6_isPairSound 37 = .ok (.aload_n 1, 1) := by decide +kernel
theorem dX6_isPairSound_38 : decode cX6_isPairSound 38 = .ok (.getfield 205, 3) := by decide +kernel
theorem dX6_isPairSound_41 : decode cX6_isPairSound 41 = .ok (.aload_n 1, 1) := by decide +kernel
theorem dX6_isPairSound_42 : decode cX6_isPairSound 42 = .ok (.getfield 224, 3) := by decide +kernel
theorem dX6_isPairSound_45 : decode cX6_isPairSound 45 = .ok (.aload_n 1, 1) := by decide +kernel
theorem dX6_isPairSound_46 : decode cX6_isPairSound 46 = .ok (.getfield 217, 3) := by decide +kernel
theorem dX6_isPairSound_49 : decode cX6_isPairSound 49 = .ok (.invokevirtual 234, 3) := by decide +kernel
theorem dX6_isPairSound_52 : decode cX6_isPairSound 52 = .ok (.invokevirtual 396, 3) := by decide +kernel
theorem dX6_isPairSound_55 : decode cX6_isPairSound 55 = .ok (.iload_n 2, 1) := by decide +kernel
theorem dX6_isPairSound_56 : decode cX6_isPairSound 56 = .ok (.if_icmp .ne 7, 3) := by decide +kernel
theorem dX6_isPairSound_59 : decode cX6_isPairSound 59 = .ok (.iconst 1, 1) := by decide +kernel
theorem dX6_isPairSound_60 : decode cX6_isPairSound 60 = .ok (.goto 4, 3) := by decide +kernel
theorem dX6_isPairSound_63 : decode cX6_isPairSound 63 = .ok (.iconst 0, 1) := by decide +kernel
theorem dX6_isPairSound_64 : decode cX6_isPairSound 64 = .ok (.ireturn, 1) := by decide +kernel
theorem dX6_mix_0 : decode cX6_mix 0 = .ok (.lload_n 0, 1) := by decide +kernel
theorem dX6_mix_1 : decode cX6_mix 1 = .ok (.ldc2_w 399, 3) := by decide +kernel
theorem dX6_mix_4 : decode cX6_mix 4 = .ok (.lmul, 1) := by decide +kernel
theorem dX6_mix_5 : decode cX6_mix 5 = .ok (.lload_n 2, 1) := by decide +kernel
theorem dX6_mix_6 : decode cX6_mix 6 = .ok (.ladd, 1) := by decide +kernel
theorem dX6_mix_7 : decode cX6_mix 7 = .ok (.lreturn, 1) := by decide +kernel
theorem dX6_mixWalk_0 : decode cX6_mixWalk 0 = .ok (.lload_n 1, 1) := by decide +kernel
theorem dX6_mixWalk_1 : decode cX6_mixWalk 1 = .ok (.lstore 4, 2) := by decide +kernel
theorem dX6_mixWalk_3 : decode cX6_mixWalk 3 = .ok (.iconst 0, 1) := by decide +kernel
theorem dX6_mixWalk_4 : decode cX6_mixWalk 4 = .ok (.istore 6, 2) := by decide +kernel
theorem dX6_mixWalk_6 : decode cX6_mixWalk 6 = .ok (.iload 6, 2) := by decide +kernel
theorem dX6_mixWalk_8 : decode cX6_mixWalk 8 = .ok (.iconst 5, 1) := by decide +kernel
theorem dX6_mixWalk_9 : decode cX6_mixWalk 9 = .ok (.if_icmp .gt 24, 3) := by decide +kernel
theorem dX6_mixWalk_12 : decode cX6_mixWalk 12 = .ok (.lload 4, 2) := by decide +kernel
theorem dX6_mixWalk_14 : decode cX6_mixWalk 14 = .ok (.aload_n 0, 1) := by decide +kernel
theorem dX6_mixWalk_15 : decode cX6_mixWalk 15 = .ok (.aload_n 3, 1) := by decide +kernel
theorem dX6_mixWalk_16 : decode cX6_mixWalk 16 = .ok (.iload 6, 2) := by decide +kernel
theorem dX6_mixWalk_18 : decode cX6_mixWalk 18 = .ok (.invokevirtual 94, 3) := by decide +kernel
theorem dX6_mixWalk_21 : decode cX6_mixWalk 21 = .ok (.i2l, 1) := by decide +kernel
theorem dX6_mixWalk_22 : decode cX6_mixWalk 22 = .ok (.invokestatic 331, 3) := by decide +kernel
theorem dX6_mixWalk_25 : decode cX6_mixWalk 25 = .ok (.lstore 4, 2) := by decide +kernel
theorem dX6_mixWalk_27 : decode cX6_mixWalk 27 = .ok (.iinc 6 1, 3) := by decide +kernel
theorem dX6_mixWalk_30 : decode cX6_mixWalk 30 = .ok (.goto (-24), 3) := by decide +kernel
theorem dX6_mixWalk_33 : decode cX6_mixWalk 33 = .ok (.iconst 0, 1) := by decide +kernel
theorem dX6_mixWalk_34 : decode cX6_mixWalk 34 = .ok (.istore 6, 2) := by decide +kernel
theorem dX6_mixWalk_36 : decode cX6_mixWalk 36 = .ok (.iload 6, 2) := by decide +kernel
theorem dX6_mixWalk_38 : decode cX6_mixWalk 38 = .ok (.iconst 3, 1) := by decide +kernel
theorem dX6_mixWalk_39 : decode cX6_mixWalk 39 = .ok (.if_icmp .gt 26, 3) := by decide +kernel
theorem dX6_mixWalk_42 : decode cX6_mixWalk 42 = .ok (.lload 4, 2) := by decide +kernel
theorem dX6_mixWalk_44 : decode cX6_mixWalk 44 = .ok (.aload_n 0, 1) := by decide +kernel
theorem dX6_mixWalk_45 : decode cX6_mixWalk 45 = .ok (.aload_n 3, 1) := by decide +kernel
theorem dX6_mixWalk_46 : decode cX6_mixWalk 46 = .ok (.iload 6, 2) := by decide +kernel
theorem dX6_mixWalk_48 : decode cX6_mixWalk 48 = .ok (.invokevirtual 98, 3) := by decide +kernel
theorem dX6_mixWalk_51 : decode cX6_mixWalk 51 = .ok (.invokevirtual 362, 3) := by decide +kernel
theorem dX6_mixWalk_54 : decode cX6_mixWalk 54 = .ok (.invokestatic 331, 3) := by decide +kernel
theorem dX6_mixWalk_57 : decode cX6_mixWalk 57 = .ok (.lstore 4, 2) := by decide +kernel
theorem dX6_mixWalk_59 : decode cX6_mixWalk 59 = .ok (.iinc 6 1, 3) := by decide +kernel
theorem dX6_mixWalk_62 : decode cX6_mixWalk 62 = .ok (.goto (-26), 3) := by decide +kernel
theorem dX6_mixWalk_65 : decode cX6_mixWalk 65 = .ok (.lload 4, 2) := by decide +kernel
theorem dX6_mixWalk_67 : decode cX6_mixWalk 67 = .ok (.aload_n 0, 1) := by decide +kernel
theorem dX6_mixWalk_68 : decode cX6_mixWalk 68 = .ok (.aload_n 3, 1) := by decide +kernel
theorem dX6_mixWalk_69 : decode cX6_mixWalk 69 = .ok (.iconst 1, 1) := by decide +kernel
theorem dX6_mixWalk_70 : decode cX6_mixWalk 70 = .ok (.invokevirtual 106, 3) := by decide +kernel
theorem dX6_mixWalk_73 : decode cX6_mixWalk 73 = .ok (.i2l, 1) := by decide +kernel
theorem dX6_mixWalk_74 : decode cX6_mixWalk 74 = .ok (.invokestatic 331, 3) := by decide +kernel
theorem dX6_mixWalk_77 : decode cX6_mixWalk 77 = .ok (.aload_n 0, 1) := by decide +kernel
theorem dX6_mixWalk_78 : decode cX6_mixWalk 78 = .ok (.aload_n 3, 1) := by decide +kernel
theorem dX6_mixWalk_79 : decode cX6_mixWalk 79 = .ok (.iconst 2, 1) := by decide +kernel
theorem dX6_mixWalk_80 : decode cX6_mixWalk 80 = .ok (.invokevirtual 106, 3) := by decide +kernel
theorem dX6_mixWalk_83 : decode cX6_mixWalk 83 = .ok (.i2l, 1) := by decide +kernel
theorem dX6_mixWalk_84 : decode cX6_mixWalk 84 = .ok (.invokestatic 331, 3) := by decide +kernel
theorem dX6_mixWalk_87 : decode cX6_mixWalk 87 = .ok (.lreturn, 1) := by decide +kernel
theorem dX6_mixPair_0 : decode cX6_mixPair 0 = .ok (.lload_n 0, 1) := by decide +kernel
theorem dX6_mixPair_1 : decode cX6_mixPair 1 = .ok (.aload_n 2, 1) := by decide +kernel
theorem dX6_mixPair_2 : decode cX6_mixPair 2 = .ok (.getfield 205, 3) := by decide +kernel
theorem dX6_mixPair_5 : decode cX6_mixPair 5 = .ok (.i2l, 1) := by decide +kernel
theorem dX6_mixPair_6 : decode cX6_mixPair 6 = .ok (.invokestatic 331, 3) := by decide +kernel
theorem dX6_mixPair_9 : decode cX6_mixPair 9 = .ok (.lstore_n 3, 1) := by decide +kernel
theorem dX6_mixPair_10 : decode cX6_mixPair 10 = .ok (.lload_n 3, 1) := by decide +kernel
theorem dX6_mixPair_11 : decode cX6_mixPair 11 = .ok (.aload_n 2, 1) := by decide +kernel
theorem dX6_mixPair_12 : decode cX6_mixPair 12 = .ok (.getfield 224, 3) := by decide +kernel
theorem dX6_mixPair_15 : decode cX6_mixPair 15 = .ok (.invokevirtual 362, 3) := by decide +kernel
theorem dX6_mixPair_18 : decode cX6_mixPair 18 = .ok (.invokestatic 331, 3) := by decide +kernel
theorem dX6_mixPair_21 : decode cX6_mixPair 21 = .ok (.aload_n 2, 1) := by decide +kernel
theorem dX6_mixPair_22 : decode cX6_mixPair 22 = .ok (.getfield 217, 3) := by decide +kernel
theorem dX6_mixPair_25 : decode cX6_mixPair 25 = .ok (.invokevirtual 362, 3) := by decide +kernel
theorem dX6_mixPair_28 : decode cX6_mixPair 28 = .ok (.invokestatic 331, 3) := by decide +kernel
theorem dX6_mixPair_31 : decode cX6_mixPair 31 = .ok (.lstore_n 3, 1) := by decide +kernel
theorem dX6_mixPair_32 : decode cX6_mixPair 32 = .ok (.lload_n 3, 1) := by decide +kernel
theorem dX6_mixPair_33 : decode cX6_mixPair 33 = .ok (.aload_n 2, 1) := by decide +kernel
theorem dX6_mixPair_34 : decode cX6_mixPair 34 = .ok (.getfield 224, 3) := by decide +kernel
theorem dX6_mixPair_37 : decode cX6_mixPair 37 = .ok (.invokevirtual 374, 3) := by decide +kernel
theorem dX6_mixPair_40 : decode cX6_mixPair 40 = .ok (.i2l, 1) := by decide +kernel
theorem dX6_mixPair_41 : decode cX6_mixPair 41 = .ok (.invokestatic 331, 3) := by decide +kernel
theorem dX6_mixPair_44 : decode cX6_mixPair 44 = .ok (.aload_n 2, 1) := by decide +kernel
theorem dX6_mixPair_45 : decode cX6_mixPair 45 = .ok (.getfield 217, 3) := by decide +kernel
theorem dX6_mixPair_48 : decode cX6_mixPair 48 = .ok (.invokevirtual 374, 3) := by decide +kernel
theorem dX6_mixPair_51 : decode cX6_mixPair 51 = .ok (.i2l, 1) := by decide +kernel
theorem dX6_mixPair_52 : decode cX6_mixPair 52 = .ok (.invokestatic 331, 3) := by decide +kernel
theorem dX6_mixPair_55 : decode cX6_mixPair 55 = .ok (.lreturn, 1) := by decide +kernel
theorem dX7_init_0 : decode cX7_init 0 = .ok (.aload_n 0, 1) := by decide +kernel
theorem dX7_init_1 : decode cX7_init 1 = .ok (.invokespecial 1, 3) := by decide +kernel
theorem dX7_init_4 : decode cX7_init 4 = .ok (.return_, 1) := by decide +kernel
