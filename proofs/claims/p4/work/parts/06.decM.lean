theorem dX8_init_0 : decode cX8_init 0 = .ok (.aload_n 0, 1) := by decide +kernel
theorem dX8_init_1 : decode cX8_init 1 = .ok (.invokespecial 3, 3) := by decide +kernel
theorem dX8_init_4 : decode cX8_init 4 = .ok (.aload_n 0, 1) := by decide +kernel
theorem dX8_init_5 : decode cX8_init 5 = .ok (.iconst 3, 1) := by decide +kernel
theorem dX8_init_6 : decode cX8_init 6 = .ok (.newarray .int, 2) := by decide +kernel
theorem dX8_init_8 : decode cX8_init 8 = .ok (.dup, 1) := by decide +kernel
theorem dX8_init_9 : decode cX8_init 9 = .ok (.iconst 0, 1) := by decide +kernel
theorem dX8_init_10 : decode cX8_init 10 = .ok (.iconst 2, 1) := by decide +kernel
theorem dX8_init_11 : decode cX8_init 11 = .ok (.iastore, 1) := by decide +kernel
theorem dX8_init_12 : decode cX8_init 12 = .ok (.dup, 1) := by decide +kernel
theorem dX8_init_13 : decode cX8_init 13 = .ok (.iconst 1, 1) := by decide +kernel
theorem dX8_init_14 : decode cX8_init 14 = .ok (.iconst 2, 1) := by decide +kernel
theorem dX8_init_15 : decode cX8_init 15 = .ok (.iastore, 1) := by decide +kernel
theorem dX8_init_16 : decode cX8_init 16 = .ok (.dup, 1) := by decide +kernel
theorem dX8_init_17 : decode cX8_init 17 = .ok (.iconst 2, 1) := by decide +kernel
theorem dX8_init_18 : decode cX8_init 18 = .ok (.iconst 2, 1) := by decide +kernel
theorem dX8_init_19 : decode cX8_init 19 = .ok (.iastore, 1) := by decide +kernel
theorem dX8_init_20 : decode cX8_init 20 = .ok (.putfield 9, 3) := by decide +kernel
theorem dX8_init_23 : decode cX8_init 23 = .ok (.aload_n 0, 1) := by decide +kernel
theorem dX8_init_24 : decode cX8_init 24 = .ok (.iconst 3, 1) := by decide +kernel
theorem dX8_init_25 : decode cX8_init 25 = .ok (.newarray .int, 2) := by decide +kernel
theorem dX8_init_27 : decode cX8_init 27 = .ok (.putfield 13, 3) := by decide +kernel
theorem dX8_init_30 : decode cX8_init 30 = .ok (.aload_n 0, 1) := by decide +kernel
theorem dX8_init_31 : decode cX8_init 31 = .ok (.iconst 3, 1) := by decide +kernel
theorem dX8_init_32 : decode cX8_init 32 = .ok (.newarray .int, 2) := by decide +kernel
theorem dX8_init_34 : decode cX8_init 34 = .ok (.dup, 1) := by decide +kernel
theorem dX8_init_35 : decode cX8_init 35 = .ok (.iconst 0, 1) := by decide +kernel
theorem dX8_init_36 : decode cX8_init 36 = .ok (.iconst 2, 1) := by decide +kernel
theorem dX8_init_37 : decode cX8_init 37 = .ok (.iastore, 1) := by decide +kernel
theorem dX8_init_38 : decode cX8_init 38 = .ok (.dup, 1) := by decide +kernel
theorem dX8_init_39 : decode cX8_init 39 = .ok (.iconst 1, 1) := by decide +kernel
theorem dX8_init_40 : decode cX8_init 40 = .ok (.iconst 2, 1) := by decide +kernel
theorem dX8_init_41 : decode cX8_init 41 = .ok (.iastore, 1) := by decide +kernel
theorem dX8_init_42 : decode cX8_init 42 = .ok (.dup, 1) := by decide +kernel
theorem dX8_init_43 : decode cX8_init 43 = .ok (.iconst 2, 1) := by decide +kernel
theorem dX8_init_44 : decode cX8_init 44 = .ok (.iconst 2, 1) := by decide +kernel
theorem dX8_init_45 : decode cX8_init 45 = .ok (.iastore, 1) := by decide +kernel
theorem dX8_init_46 : decode cX8_init 46 = .ok (.putfield 16, 3) := by decide +kernel
theorem dX8_init_49 : decode cX8_init 49 = .ok (.aload_n 0, 1) := by decide +kernel
theorem dX8_init_50 : decode cX8_init 50 = .ok (.iconst 3, 1) := by decide +kernel
theorem dX8_init_51 : decode cX8_init 51 = .ok (.anewarray 19, 3) := by decide +kernel
theorem dX8_init_54 : decode cX8_init 54 = .ok (.dup, 1) := by decide +kernel
theorem dX8_init_55 : decode cX8_init 55 = .ok (.iconst 0, 1) := by decide +kernel
theorem dX8_init_56 : decode cX8_init 56 = .ok (.lconst 1, 1) := by decide +kernel
theorem dX8_init_57 : decode cX8_init 57 = .ok (.invokestatic 20, 3) := by decide +kernel
theorem dX8_init_60 : decode cX8_init 60 = .ok (.aastore, 1) := by decide +kernel
theorem dX8_init_61 : decode cX8_init 61 = .ok (.dup, 1) := by decide +kernel
theorem dX8_init_62 : decode cX8_init 62 = .ok (.iconst 1, 1) := by decide +kernel
theorem dX8_init_63 : decode cX8_init 63 = .ok (.lconst 1, 1) := by decide +kernel
theorem dX8_init_64 : decode cX8_init 64 = .ok (.invokestatic 20, 3) := by decide +kernel
theorem dX8_init_67 : decode cX8_init 67 = .ok (.aastore, 1) := by decide +kernel
theorem dX8_init_68 : decode cX8_init 68 = .ok (.dup, 1) := by decide +kernel
theorem dX8_init_69 : decode cX8_init 69 = .ok (.iconst 2, 1) := by decide +kernel
theorem dX8_init_70 : decode cX8_init 70 = .ok (.lconst 1, 1) := by decide +kernel
theorem dX8_init_71 : decode cX8_init 71 = .ok (.invokestatic 20, 3) := by decide +kernel
theorem dX8_init_74 : decode cX8_init 74 = .ok (.aastore, 1) := by decide +kernel
theorem dX8_init_75 : decode cX8_init 75 = .ok (.putfield 24, 3) := by decide +kernel
theorem dX8_init_78 : decode cX8_init 78 = .ok (.aload_n 0, 1) := by decide +kernel
theorem dX8_init_79 : decode cX8_init 79 = .ok (.iconst 3, 1) := by decide +kernel
theorem dX8_init_80 : decode cX8_init 80 = .ok (.anewarray 19, 3) := by decide +kernel
theorem dX8_init_83 : decode cX8_init 83 = .ok (.dup, 1) := by decide +kernel
theorem dX8_init_84 : decode cX8_init 84 = .ok (.iconst 0, 1) := by decide +kernel
theorem dX8_init_85 : decode cX8_init 85 = .ok (.lconst 0, 1) := by decide +kernel
theorem dX8_init_86 : decode cX8_init 86 = .ok (.invokestatic 20, 3) := by decide +kernel
theorem dX8_init_89 : decode cX8_init 89 = .ok (.aastore, 1) := by decide +kernel
theorem dX8_init_90 : decode cX8_init 90 = .ok (.dup, 1) := by decide +kernel
theorem dX8_init_91 : decode cX8_init 91 = .ok (.iconst 1, 1) := by decide +kernel
theorem dX8_init_92 : decode cX8_init 92 = .ok (.lconst 0, 1) := by decide +kernel
theorem dX8_init_93 : decode cX8_init 93 = .ok (.invokestatic 20, 3) := by decide +kernel
theorem dX8_init_96 : decode cX8_init 96 = .ok (.aastore, 1) := by decide +kernel
theorem dX8_init_97 : decode cX8_init 97 = .ok (.dup, 1) := by decide +kernel
theorem dX8_init_98 : decode cX8_init 98 = .ok (.iconst 2, 1) := by decide +kernel
theorem dX8_init_99 : decode cX8_init 99 = .ok (.lconst 0, 1) := by decide +kernel
theorem dX8_init_100 : decode cX8_init 100 = .ok (.invokestatic 20, 3) := by decide +kernel
theorem dX8_init_103 : decode cX8_init 103 = .ok (.aastore, 1) := by decide +kernel
theorem dX8_init_104 : decode cX8_init 104 = .ok (.putfield 28, 3) := by decide +kernel
theorem dX8_init_107 : decode cX8_init 107 = .ok (.aload_n 0, 1) := by decide +kernel
theorem dX8_init_108 : decode cX8_init 108 = .ok (.iconst 3, 1) := by decide +kernel
theorem dX8_init_109 : decode cX8_init 109 = .ok (.anewarray 19, 3) := by decide +kernel
theorem dX8_init_112 : decode cX8_init 112 = .ok (.dup, 1) := by decide +kernel
theorem dX8_init_113 : decode cX8_init 113 = .ok (.iconst 0, 1) := by decide +kernel
theorem dX8_init_114 : decode cX8_init 114 = .ok (.iconst 5, 1) := by decide +kernel
theorem dX8_init_115 : decode cX8_init 115 = .ok (.invokestatic 31, 3) := by decide +kernel
theorem dX8_init_118 : decode cX8_init 118 = .ok (.aastore, 1) := by decide +kernel
theorem dX8_init_119 : decode cX8_init 119 = .ok (.dup, 1) := by decide +kernel
theorem dX8_init_120 : decode cX8_init 120 = .ok (.iconst 1, 1) := by decide +kernel
theorem dX8_init_121 : decode cX8_init 121 = .ok (.iconst 5, 1) := by decide +kernel
theorem dX8_init_122 : decode cX8_init 122 = .ok (.invokestatic 31, 3) := by decide +kernel
theorem dX8_init_125 : decode cX8_init 125 = .ok (.aastore, 1) := by decide +kernel
theorem dX8_init_126 : decode cX8_init 126 = .ok (.dup, 1) := by decide +kernel
theorem dX8_init_127 : decode cX8_init 127 = .ok (.iconst 2, 1) := by decide +kernel
theorem dX8_init_128 : decode cX8_init 128 = .ok (.iconst 5, 1) := by decide +kernel
theorem dX8_init_129 : decode cX8_init 129 = .ok (.invokestatic 31, 3) := by decide +kernel
theorem dX8_init_132 : decode cX8_init 132 = .ok (.aastore, 1) := by decide +kernel
theorem dX8_init_133 : decode cX8_init 133 = .ok (.putfield 35, 3) := by decide +kernel
theorem dX8_init_136 : decode cX8_init 136 = .ok (.aload_n 0, 1) := by decide +kernel
theorem dX8_init_137 : decode cX8_init 137 = .ok (.iconst 5, 1) := by decide +kernel
theorem dX8_init_138 : decode cX8_init 138 = .ok (.newarray .int, 2) := by decide +kernel
theorem dX8_init_140 : decode cX8_init 140 = .ok (.putfield 38, 3) := by decide +kernel
theorem dX8_init_143 : decode cX8_init 143 = .ok (.return_, 1) := by decide +kernel
theorem dX8_thrown_0 : decode cX8_thrown 0 = .ok (.aload_n 0, 1) := by decide +kernel
theorem dX8_thrown_1 : decode cX8_thrown 1 = .ok (.getfield 41, 3) := by decide +kernel
theorem dX8_thrown_4 : decode cX8_thrown 4 = .ok (.ireturn, 1) := by decide +kernel
theorem dX8_refuse_0 : decode cX8_refuse 0 = .ok (.iload_n 1, 1) := by decide +kernel
theorem dX8_refuse_1 : decode cX8_refuse 1 = .ok (.ifCond .eq 15, 3) := by decide +kernel
theorem dX8_refuse_4 : decode cX8_refuse 4 = .ok (.aload_n 0, 1) := by decide +kernel
theorem dX8_refuse_5 : decode cX8_refuse 5 = .ok (.getfield 41, 3) := by decide +kernel
theorem dX8_refuse_8 : decode cX8_refuse 8 = .ok (.ifCond .ne 8, 3) := by decide +kernel
theorem dX8_refuse_11 : decode cX8_refuse 11 = .ok (.aload_n 0, 1) := by decide +kernel
theorem dX8_refuse_12 : decode cX8_refuse 12 = .ok (.iload_n 2, 1) := by decide +kernel
theorem dX8_refuse_13 : decode cX8_refuse 13 = .ok (.putfield 41, 3) := by decide +kernel
theorem dX8_refuse_16 : decode cX8_refuse 16 = .ok (.aload_n 0, 1) := by decide +kernel
theorem dX8_refuse_17 : decode cX8_refuse 17 = .ok (.getfield 41, 3) := by decide +kernel
theorem dX8_refuse_20 : decode cX8_refuse 20 = .ok (.ifCond .le 7, 3) := by decide +kernel
theorem dX8_refuse_23 : decode cX8_refuse 23 = .ok (.iconst 1, 1) := by decide +kernel
theorem dX8_refuse_24 : decode cX8_refuse 24 = .ok (.goto 4, 3) := by decide +kernel
theorem dX8_refuse_27 : decode cX8_refuse 27 = .ok (.iconst 0, 1) := by decide +kernel
theorem dX8_refuse_28 : decode cX8_refuse 28 = .ok (.ireturn, 1) := by decide +kernel
theorem dX8_start_0 : decode cX8_start 0 = .ok (.aload_n 0, 1) := by decide +kernel
theorem dX8_start_1 : decode cX8_start 1 = .ok (.iconst 0, 1) := by decide +kernel
theorem dX8_start_2 : decode cX8_start 2 = .ok (.putfield 41, 3) := by decide +kernel
theorem dX8_start_5 : decode cX8_start 5 = .ok (.aload_n 0, 1) := by decide +kernel
theorem dX8_start_6 : decode cX8_start 6 = .ok (.iload_n 1, 1) := by decide +kernel
theorem dX8_start_7 : decode cX8_start 7 = .ok (.iload_n 2, 1) := by decide +kernel
theorem dX8_start_8 : decode cX8_start 8 = .ok (.invokevirtual 45, 3) := by decide +kernel
theorem dX8_start_11 : decode cX8_start 11 = .ok (.ireturn, 1) := by decide +kernel
theorem dX8_isIn_0 : decode cX8_isIn 0 = .ok (.iload_n 0, 1) := by decide +kernel
theorem dX8_isIn_1 : decode cX8_isIn 1 = .ok (.iload_n 1, 1) := by decide +kernel
theorem dX8_isIn_2 : decode cX8_isIn 2 = .ok (.if_icmp .lt 12, 3) := by decide +kernel
theorem dX8_isIn_5 : decode cX8_isIn 5 = .ok (.iload_n 0, 1) := by decide +kernel
theorem dX8_isIn_6 : decode cX8_isIn 6 = .ok (.iload_n 2, 1) := by decide +kernel
theorem dX8_isIn_7 : decode cX8_isIn 7 = .ok (.if_icmp .gt 7, 3) := by decide +kernel
theorem dX8_isIn_10 : decode cX8_isIn 10 = .ok (.iconst 1, 1) := by decide +kernel
theorem dX8_isIn_11 : decode cX8_isIn 11 = .ok (.goto 4, 3) := by decide +kernel
theorem dX8_isIn_14 : decode cX8_isIn 14 = .ok (.iconst 0, 1) := by decide +kernel
theorem dX8_isIn_15 : decode cX8_isIn 15 = .ok (.ireturn, 1) := by decide +kernel
theorem dX8_isNo_0 : decode cX8_isNo 0 = .ok (.iload_n 0, 1) := by decide +kernel
theorem dX8_isNo_1 : decode cX8_isNo 1 = .ok (.iconst 0, 1) := by decide +kernel
theorem dX8_isNo_2 : decode cX8_isNo 2 = .ok (.iconst 2, 1) := by decide +kernel
theorem dX8_isNo_3 : decode cX8_isNo 3 = .ok (.invokestatic 49, 3) := by decide +kernel
theorem dX8_isNo_6 : decode cX8_isNo 6 = .ok (.ifCond .ne 7, 3) := by decide +kernel
theorem dX8_isNo_9 : decode cX8_isNo 9 = .ok (.iconst 1, 1) := by decide +kernel
theorem dX8_isNo_10 : decode cX8_isNo 10 = .ok (.goto 4, 3) := by decide +kernel
theorem dX8_isNo_13 : decode cX8_isNo 13 = .ok (.iconst 0, 1) := by decide +kernel
theorem dX8_isNo_14 : decode cX8_isNo 14 = .ok (.ireturn, 1) := by decide +kernel
theorem dX8_done_0 : decode cX8_done 0 = .ok (.aload_n 0, 1) := by decide +kernel
theorem dX8_done_1 : decode cX8_done 1 = .ok (.getfield 38, 3) := by decide +kernel
theorem dX8_done_4 : decode cX8_done 4 = .ok (.iload_n 1, 1) := by decide +kernel
theorem dX8_done_5 : decode cX8_done 5 = .ok (.dup2, 1) := by decide +kernel
theorem dX8_done_6 : decode cX8_done 6 = .ok (.iaload, 1) := by decide +kernel
theorem dX8_done_7 : decode cX8_done 7 = .ok (.iconst 1, 1) := by decide +kernel
theorem dX8_done_8 : decode cX8_done 8 = .ok (.iadd, 1) := by decide +kernel
theorem dX8_done_9 : decode cX8_done 9 = .ok (.iastore, 1) := by decide +kernel
theorem dX8_done_10 : decode cX8_done 10 = .ok (.iload_n 2, 1) := by decide +kernel
theorem dX8_done_11 : decode cX8_done 11 = .ok (.ireturn, 1) := by decide +kernel
theorem dX8_cannot_0 : decode cX8_cannot 0 = .ok (.aload_n 0, 1) := by decide +kernel
theorem dX8_cannot_1 : decode cX8_cannot 1 = .ok (.getfield 38, 3) := by decide +kernel
theorem dX8_cannot_4 : decode cX8_cannot 4 = .ok (.iconst 3, 1) := by decide +kernel
theorem dX8_cannot_5 : decode cX8_cannot 5 = .ok (.dup2, 1) := by decide +kernel
theorem dX8_cannot_6 : decode cX8_cannot 6 = .ok (.iaload, 1) := by decide +kernel
theorem dX8_cannot_7 : decode cX8_cannot 7 = .ok (.iconst 1, 1) := by decide +kernel
theorem dX8_cannot_8 : decode cX8_cannot 8 = .ok (.iadd, 1) := by decide +kernel
theorem dX8_cannot_9 : decode cX8_cannot 9 = .ok (.iastore, 1) := by decide +kernel
theorem dX8_cannot_10 : decode cX8_cannot 10 = .ok (.bipush (-9), 2) := by decide +kernel
theorem dX8_cannot_12 : decode cX8_cannot 12 = .ok (.ireturn, 1) := by decide +kernel
theorem dX8_of_0 : decode cX8_of 0 = .ok (.lload_n 0, 1) := by decide +kernel
theorem dX8_of_1 : decode cX8_of 1 = .ok (.lconst 0, 1) := by decide +kernel
theorem dX8_of_2 : decode cX8_of 2 = .ok (.lcmp, 1) := by decide +kernel
theorem dX8_of_3 : decode cX8_of 3 = .ok (.ifCond .ge 8, 3) := by decide +kernel
theorem dX8_of_6 : decode cX8_of 6 = .ok (.lload_n 0, 1) := by decide +kernel
theorem dX8_of_7 : decode cX8_of 7 = .ok (.lneg, 1) := by decide +kernel
theorem dX8_of_8 : decode cX8_of 8 = .ok (.goto 4, 3) := by decide +kernel
theorem dX8_of_11 : decode cX8_of 11 = .ok (.lload_n 0, 1) := by decide +kernel
theorem dX8_of_12 : decode cX8_of 12 = .ok (.lstore_n 2, 1) := by decide +kernel
theorem dX8_of_13 : decode cX8_of 13 = .ok (.iconst 4, 1) := by decide +kernel
theorem dX8_of_14 : decode cX8_of 14 = .ok (.newarray .int, 2) := by decide +kernel
theorem dX8_of_16 : decode cX8_of 16 = .ok (.dup, 1) := by decide +kernel
theorem dX8_of_17 : decode cX8_of 17 = .ok (.iconst 0, 1) := by decide +kernel
theorem dX8_of_18 : decode cX8_of 18 = .ok (.iconst 0, 1) := by decide +kernel
theorem dX8_of_19 : decode cX8_of 19 = .ok (.iastore, 1) := by decide +kernel
theorem dX8_of_20 : decode cX8_of 20 = .ok (.dup, 1) := by decide +kernel
theorem dX8_of_21 : decode cX8_of 21 = .ok (.iconst 1, 1) := by decide +kernel
theorem dX8_of_22 : decode cX8_of 22 = .ok (.iconst 0, 1) := by decide +kernel
theorem dX8_of_23 : decode cX8_of 23 = .ok (.iastore, 1) := by decide +kernel
theorem dX8_of_24 : decode cX8_of 24 = .ok (.dup, 1) := by decide +kernel
theorem dX8_of_25 : decode cX8_of 25 = .ok (.iconst 2, 1) := by decide +kernel
theorem dX8_of_26 : decode cX8_of 26 = .ok (.iconst 0, 1) := by decide +kernel
theorem dX8_of_27 : decode cX8_of 27 = .ok (.iastore, 1) := by decide +kernel
theorem dX8_of_28 : decode cX8_of 28 = .ok (.dup, 1) := by decide +kernel
theorem dX8_of_29 : decode cX8_of 29 = .ok (.iconst 3, 1) := by decide +kernel
theorem dX8_of_30 : decode cX8_of 30 = .ok (.iconst 0, 1) := by decide +kernel
theorem dX8_of_31 : decode cX8_of 31 = .ok (.iastore, 1) := by decide +kernel
theorem dX8_of_32 : decode cX8_of 32 = .ok (.astore 4, 2) := by decide +kernel
theorem dX8_of_34 : decode cX8_of 34 = .ok (.iconst 1, 1) := by decide +kernel
theorem dX8_of_35 : decode cX8_of 35 = .ok (.istore 5, 2) := by decide +kernel
theorem dX8_of_37 : decode cX8_of 37 = .ok (.iload 5, 2) := by decide +kernel
theorem dX8_of_39 : decode cX8_of 39 = .ok (.iconst 4, 1) := by decide +kernel
theorem dX8_of_40 : decode cX8_of 40 = .ok (.if_icmp .ge 25, 3) := by decide +kernel
theorem dX8_of_43 : decode cX8_of 43 = .ok (.aload 4, 2) := by decide +kernel
theorem dX8_of_45 : decode cX8_of 45 = .ok (.iload 5, 2) := by decide +kernel
theorem dX8_of_47 : decode cX8_of 47 = .ok (.lload_n 2, 1) := by decide +kernel
theorem dX8_of_48 : decode cX8_of 48 = .ok (.ldc2_w 53, 3) := by decide +kernel
theorem dX8_of_51 : decode cX8_of 51 = .ok (.land, 1) := by decide +kernel
theorem dX8_of_52 : decode cX8_of 52 = .ok (.l2i, 1) := by decide +kernel
theorem dX8_of_53 : decode cX8_of 53 = .ok (.iastore, 1) := by decide +kernel
theorem dX8_of_54 : decode cX8_of 54 = .ok (.lload_n 2, 1) := by decide +kernel
theorem dX8_of_55 : decode cX8_of 55 = .ok (.bipush 30, 2) := by decide +kernel
theorem dX8_of_57 : decode cX8_of 57 = .ok (.lshr, 1) := by decide +kernel
theorem dX8_of_58 : decode cX8_of 58 = .ok (.lstore_n 2, 1) := by decide +kernel
theorem dX8_of_59 : decode cX8_of 59 = .ok (.iinc 5 1, 3) := by decide +kernel
theorem dX8_of_62 : decode cX8_of 62 = .ok (.goto (-25), 3) := by decide +kernel
theorem dX8_of_65 : decode cX8_of 65 = .ok (.lload_n 0, 1) := by decide +kernel
theorem dX8_of_66 : decode cX8_of 66 = .ok (.lconst 0, 1) := by decide +kernel
theorem dX8_of_67 : decode cX8_of 67 = .ok (.lcmp, 1) := by decide +kernel
theorem dX8_of_68 : decode cX8_of 68 = .ok (.ifCond .ge 7, 3) := by decide +kernel
theorem dX8_of_71 : decode cX8_of 71 = .ok (.iconst (-1), 1) := by decide +kernel
theorem dX8_of_72 : decode cX8_of 72 = .ok (.goto 4, 3) := by decide +kernel
theorem dX8_of_75 : decode cX8_of 75 = .ok (.iconst 1, 1) := by decide +kernel
theorem dX8_of_76 : decode cX8_of 76 = .ok (.aload 4, 2) := by decide +kernel
theorem dX8_of_78 : decode cX8_of 78 = .ok (.invokestatic 55, 3) := by decide +kernel
theorem dX8_of_81 : decode cX8_of 81 = .ok (.areturn, 1) := by decide +kernel
theorem dX8_cut_0 : decode cX8_cut 0 = .ok (.aload_n 1, 1) := by decide +kernel
theorem dX8_cut_1 : decode cX8_cut 1 = .ok (.arraylength, 1) := by decide +kernel
theorem dX8_cut_2 : decode cX8_cut 2 = .ok (.istore_n 2, 1) := by decide +kernel
theorem dX8_cut_3 : decode cX8_cut 3 = .ok (.iload_n 2, 1) := by decide +kernel
theorem dX8_cut_4 : decode cX8_cut 4 = .ok (.iconst 1, 1) := by decide +kernel
theorem dX8_cut_5 : decode cX8_cut 5 = .ok (.if_icmp .le 17, 3) := by decide +kernel
theorem dX8_cut_8 : decode cX8_cut 8 = .ok (.aload_n 1, 1) := by decide +kernel
theorem dX8_cut_9 : decode cX8_cut 9 = .ok (.iload_n 2, 1) := by decide +kernel
theorem dX8_cut_10 : decode cX8_cut 10 = .ok (.iconst 1, 1) := by decide +kernel
theorem dX8_cut_11 : decode cX8_cut 11 = .ok (.isub, 1) := by decide +kernel
theorem dX8_cut_12 : decode cX8_cut 12 = .ok (.iaload, 1) := by decide +kernel
theorem dX8_cut_13 : decode cX8_cut 13 = .ok (.ifCond .ne 9, 3) := by decide +kernel
theorem dX8_cut_16 : decode cX8_cut 16 = .ok (.iinc 2 (-1), 3) := by decide +kernel
theorem dX8_cut_19 : decode cX8_cut 19 = .ok (.goto (-16), 3) := by decide +kernel
theorem dX8_cut_22 : decode cX8_cut 22 = .ok (.iload_n 2, 1) := by decide +kernel
theorem dX8_cut_23 : decode cX8_cut 23 = .ok (.newarray .int, 2) := by decide +kernel
theorem dX8_cut_25 : decode cX8_cut 25 = .ok (.astore_n 3, 1) := by decide +kernel
theorem dX8_cut_26 : decode cX8_cut 26 = .ok (.iconst 1, 1) := by decide +kernel
theorem dX8_cut_27 : decode cX8_cut 27 = .ok (.istore 4, 2) := by decide +kernel
theorem dX8_cut_29 : decode cX8_cut 29 = .ok (.iload 4, 2) := by decide +kernel
theorem dX8_cut_31 : decode cX8_cut 31 = .ok (.iload_n 2, 1) := by decide +kernel
theorem dX8_cut_32 : decode cX8_cut 32 = .ok (.if_icmp .ge 17, 3) := by decide +kernel
theorem dX8_cut_35 : decode cX8_cut 35 = .ok (.aload_n 3, 1) := by decide +kernel
theorem dX8_cut_36 : decode cX8_cut 36 = .ok (.iload 4, 2) := by decide +kernel
theorem dX8_cut_38 : decode cX8_cut 38 = .ok (.aload_n 1, 1) := by decide +kernel
theorem dX8_cut_39 : decode cX8_cut 39 = .ok (.iload 4, 2) := by decide +kernel
theorem dX8_cut_41 : decode cX8_cut 41 = .ok (.iaload, 1) := by decide +kernel
theorem dX8_cut_42 : decode cX8_cut 42 = .ok (.iastore, 1) := by decide +kernel
theorem dX8_cut_43 : decode cX8_cut 43 = .ok (.iinc 4 1, 3) := by decide +kernel
theorem dX8_cut_46 : decode cX8_cut 46 = .ok (.goto (-17), 3) := by decide +kernel
theorem dX8_cut_49 : decode cX8_cut 49 = .ok (.aload_n 3, 1) := by decide +kernel
theorem dX8_cut_50 : decode cX8_cut 50 = .ok (.iconst 0, 1) := by decide +kernel
theorem dX8_cut_51 : decode cX8_cut 51 = .ok (.iload_n 2, 1) := by decide +kernel
theorem dX8_cut_52 : decode cX8_cut 52 = .ok (.iconst 1, 1) := by decide +kernel
theorem dX8_cut_53 : decode cX8_cut 53 = .ok (.if_icmp .ne 7, 3) := by decide +kernel
theorem dX8_cut_56 : decode cX8_cut 56 = .ok (.iconst 0, 1) := by decide +kernel
theorem dX8_cut_57 : decode cX8_cut 57 = .ok (.goto 4, 3) := by decide +kernel
theorem dX8_cut_60 : decode cX8_cut 60 = .ok (.iload_n 0, 1) := by decide +kernel
theorem dX8_cut_61 : decode cX8_cut 61 = .ok (.iastore, 1) := by decide +kernel
theorem dX8_cut_62 : decode cX8_cut 62 = .ok (.aload_n 3, 1) := by decide +kernel
theorem dX8_cut_63 : decode cX8_cut 63 = .ok (.areturn, 1) := by decide +kernel
theorem dX8_signed_0 : decode cX8_signed 0 = .ok (.aload_n 0, 1) := by decide +kernel
theorem dX8_signed_1 : decode cX8_signed 1 = .ok (.invokevirtual 59, 3) := by decide +kernel
theorem dX8_signed_4 : decode cX8_signed 4 = .ok (.checkcast 19, 3) := by decide +kernel
theorem dX8_signed_7 : decode cX8_signed 7 = .ok (.astore_n 2, 1) := by decide +kernel
theorem dX8_signed_8 : decode cX8_signed 8 = .ok (.aload_n 2, 1) := by decide +kernel
theorem dX8_signed_9 : decode cX8_signed 9 = .ok (.iconst 0, 1) := by decide +kernel
theorem dX8_signed_10 : decode cX8_signed 10 = .ok (.iload_n 1, 1) := by decide +kernel
theorem dX8_signed_11 : decode cX8_signed 11 = .ok (.iastore, 1) := by decide +kernel
theorem dX8_signed_12 : decode cX8_signed 12 = .ok (.aload_n 2, 1) := by decide +kernel
theorem dX8_signed_13 : decode cX8_signed 13 = .ok (.areturn, 1) := by decide +kernel
theorem dX8_bySize_0 : decode cX8_bySize 0 = .ok (.aload_n 0, 1) := by decide +kernel
theorem dX8_bySize_1 : decode cX8_bySize 1 = .ok (.arraylength, 1) := by decide +kernel
theorem dX8_bySize_2 : decode cX8_bySize 2 = .ok (.aload_n 1, 1) := by decide +kernel
theorem dX8_bySize_3 : decode cX8_bySize 3 = .ok (.arraylength, 1) := by decide +kernel
theorem dX8_bySize_4 : decode cX8_bySize 4 = .ok (.if_icmp .eq 9, 3) := by decide +kernel
theorem dX8_bySize_7 : decode cX8_bySize 7 = .ok (.aload_n 0, 1) := by decide +kernel
theorem dX8_bySize_8 : decode cX8_bySize 8 = .ok (.arraylength, 1) := by decide +kernel
theorem dX8_bySize_9 : decode cX8_bySize 9 = .ok (.aload_n 1, 1) := by decide +kernel
theorem dX8_bySize_10 : decode cX8_bySize 10 = .ok (.arraylength, 1) := by decide +kernel
theorem dX8_bySize_11 : decode cX8_bySize 11 = .ok (.isub, 1) := by decide +kernel
theorem dX8_bySize_12 : decode cX8_bySize 12 = .ok (.ireturn, 1) := by decide +kernel
theorem dX8_bySize_13 : decode cX8_bySize 13 = .ok (.aload_n 0, 1) := by decide +kernel
theorem dX8_bySize_14 : decode cX8_bySize 14 = .ok (.arraylength, 1) := by decide +kernel
theorem dX8_bySize_15 : decode cX8_bySize 15 = .ok (.iconst 1, 1) := by decide +kernel
theorem dX8_bySize_16 : decode cX8_bySize 16 = .ok (.isub, 1) := by decide +kernel
theorem dX8_bySize_17 : decode cX8_bySize 17 = .ok (.istore_n 2, 1) := by decide +kernel
theorem dX8_bySize_18 : decode cX8_bySize 18 = .ok (.iload_n 2, 1) := by decide +kernel
theorem dX8_bySize_19 : decode cX8_bySize 19 = .ok (.ifCond .le 26, 3) := by decide +kernel
theorem dX8_bySize_22 : decode cX8_bySize 22 = .ok (.aload_n 0, 1) := by decide +kernel
theorem dX8_bySize_23 : decode cX8_bySize 23 = .ok (.iload_n 2, 1) := by decide +kernel
theorem dX8_bySize_24 : decode cX8_bySize 24 = .ok (.iaload, 1) := by decide +kernel
theorem dX8_bySize_25 : decode cX8_bySize 25 = .ok (.aload_n 1, 1) := by decide +kernel
theorem dX8_bySize_26 : decode cX8_bySize 26 = .ok (.iload_n 2, 1) := by decide +kernel
theorem dX8_bySize_27 : decode cX8_bySize 27 = .ok (.iaload, 1) := by decide +kernel
theorem dX8_bySize_28 : decode cX8_bySize 28 = .ok (.if_icmp .eq 11, 3) := by decide +kernel
theorem dX8_bySize_31 : decode cX8_bySize 31 = .ok (.aload_n 0, 1) := by decide +kernel
theorem dX8_bySize_32 : decode cX8_bySize 32 = .ok (.iload_n 2, 1) := by decide +kernel
theorem dX8_bySize_33 : decode cX8_bySize 33 = .ok (.iaload, 1) := by decide +kernel
theorem dX8_bySize_34 : decode cX8_bySize 34 = .ok (.aload_n 1, 1) := by decide +kernel
theorem dX8_bySize_35 : decode cX8_bySize 35 = .ok (.iload_n 2, 1) := by decide +kernel
theorem dX8_bySize_36 : decode cX8_bySize 36 = .ok (.iaload, 1) := by decide +kernel
theorem dX8_bySize_37 : decode cX8_bySize 37 = .ok (.isub, 1) := by decide +kernel
theorem dX8_bySize_38 : decode cX8_bySize 38 = .ok (.ireturn, 1) := by decide +kernel
theorem dX8_bySize_39 : decode cX8_bySize 39 = .ok (.iinc 2 (-1), 3) := by decide +kernel
theorem dX8_bySize_42 : decode cX8_bySize 42 = .ok (.goto (-24), 3) := by decide +kernel
theorem dX8_bySize_45 : decode cX8_bySize 45 = .ok (.iconst 0, 1) := by decide +kernel
theorem dX8_bySize_46 : decode cX8_bySize 46 = .ok (.ireturn, 1) := by decide +kernel
theorem dX8_side_0 : decode cX8_side 0 = .ok (.aload_n 0, 1) := by decide +kernel
theorem dX8_side_1 : decode cX8_side 1 = .ok (.iconst 0, 1) := by decide +kernel
theorem dX8_side_2 : decode cX8_side 2 = .ok (.iaload, 1) := by decide +kernel
theorem dX8_side_3 : decode cX8_side 3 = .ok (.aload_n 1, 1) := by decide +kernel
theorem dX8_side_4 : decode cX8_side 4 = .ok (.iconst 0, 1) := by decide +kernel
theorem dX8_side_5 : decode cX8_side 5 = .ok (.iaload, 1) := by decide +kernel
theorem dX8_side_6 : decode cX8_side 6 = .ok (.if_icmp .eq 18, 3) := by decide +kernel
theorem dX8_side_9 : decode cX8_side 9 = .ok (.aload_n 0, 1) := by decide +kernel
theorem dX8_side_10 : decode cX8_side 10 = .ok (.iconst 0, 1) := by decide +kernel
theorem dX8_side_11 : decode cX8_side 11 = .ok (.iaload, 1) := by decide +kernel
theorem dX8_side_12 : decode cX8_side 12 = .ok (.aload_n 1, 1) := by decide +kernel
theorem dX8_side_13 : decode cX8_side 13 = .ok (.iconst 0, 1) := by decide +kernel
theorem dX8_side_14 : decode cX8_side 14 = .ok (.iaload, 1) := by decide +kernel
theorem dX8_side_15 : decode cX8_side 15 = .ok (.if_icmp .ge 7, 3) := by decide +kernel
theorem dX8_side_18 : decode cX8_side 18 = .ok (.iconst (-1), 1) := by decide +kernel
theorem dX8_side_19 : decode cX8_side 19 = .ok (.goto 4, 3) := by decide +kernel
theorem dX8_side_22 : decode cX8_side 22 = .ok (.iconst 1, 1) := by decide +kernel
theorem dX8_side_23 : decode cX8_side 23 = .ok (.ireturn, 1) := by decide +kernel
theorem dX8_side_24 : decode cX8_side 24 = .ok (.aload_n 0, 1) := by decide +kernel
theorem dX8_side_25 : decode cX8_side 25 = .ok (.iconst 0, 1) := by decide +kernel
theorem dX8_side_26 : decode cX8_side 26 = .ok (.iaload, 1) := by decide +kernel
theorem dX8_side_27 : decode cX8_side 27 = .ok (.aload_n 0, 1) := by decide +kernel
theorem dX8_side_28 : decode cX8_side 28 = .ok (.aload_n 1, 1) := by decide +kernel
theorem dX8_side_29 : decode cX8_side 29 = .ok (.invokestatic 63, 3) := by decide +kernel
theorem dX8_side_32 : decode cX8_side 32 = .ok (.imul, 1) := by decide +kernel
theorem dX8_side_33 : decode cX8_side 33 = .ok (.istore_n 2, 1) := by decide +kernel
theorem dX8_side_34 : decode cX8_side 34 = .ok (.iload_n 2, 1) := by decide +kernel
theorem dX8_side_35 : decode cX8_side 35 = .ok (.ifCond .ge 7, 3) := by decide +kernel
theorem dX8_side_38 : decode cX8_side 38 = .ok (.iconst (-1), 1) := by decide +kernel
theorem dX8_side_39 : decode cX8_side 39 = .ok (.goto 12, 3) := by decide +kernel
theorem dX8_side_42 : decode cX8_side 42 = .ok (.iload_n 2, 1) := by decide +kernel
theorem dX8_side_43 : decode cX8_side 43 = .ok (.ifCond .le 7, 3) := by decide +kernel
theorem dX8_side_46 : decode cX8_side 46 = .ok (.iconst 1, 1) := by decide +kernel
theorem dX8_side_47 : decode cX8_side 47 = .ok (.goto 4, 3) := by decide +kernel
theorem dX8_side_50 : decode cX8_side 50 = .ok (.iconst 0, 1) := by decide +kernel
theorem dX8_side_51 : decode cX8_side 51 = .ok (.ireturn, 1) := by decide +kernel
theorem dX8_plus_0 : decode cX8_plus 0 = .ok (.aload_n 0, 1) := by decide +kernel
theorem dX8_plus_1 : decode cX8_plus 1 = .ok (.iconst 0, 1) := by decide +kernel
theorem dX8_plus_2 : decode cX8_plus 2 = .ok (.iaload, 1) := by decide +kernel
theorem dX8_plus_3 : decode cX8_plus 3 = .ok (.ifCond .ne 5, 3) := by decide +kernel
theorem dX8_plus_6 : decode cX8_plus 6 = .ok (.aload_n 1, 1) := by decide +kernel
theorem dX8_plus_7 : decode cX8_plus 7 = .ok (.areturn, 1) := by decide +kernel
theorem dX8_plus_8 : decode cX8_plus 8 = .ok (.aload_n 1, 1) := by decide +kernel
theorem dX8_plus_9 : decode cX8_plus 9 = .ok (.iconst 0, 1) := by decide +kernel
theorem dX8_plus_10 : decode cX8_plus 10 = .ok (.iaload, 1) := by decide +kernel
theorem dX8_plus_11 : decode cX8_plus 11 = .ok (.ifCond .ne 5, 3) := by decide +kernel
theorem dX8_plus_14 : decode cX8_plus 14 = .ok (.aload_n 0, 1) := by decide +kernel
theorem dX8_plus_15 : decode cX8_plus 15 = .ok (.areturn, 1) := by decide +kernel
theorem dX8_plus_16 : decode cX8_plus 16 = .ok (.aload_n 0, 1) := by decide +kernel
theorem dX8_plus_17 : decode cX8_plus 17 = .ok (.iconst 0, 1) := by decide +kernel
theorem dX8_plus_18 : decode cX8_plus 18 = .ok (.iaload, 1) := by decide +kernel
theorem dX8_plus_19 : decode cX8_plus 19 = .ok (.aload_n 1, 1) := by decide +kernel
theorem dX8_plus_20 : decode cX8_plus 20 = .ok (.iconst 0, 1) := by decide +kernel
theorem dX8_plus_21 : decode cX8_plus 21 = .ok (.iaload, 1) := by decide +kernel
theorem dX8_plus_22 : decode cX8_plus 22 = .ok (.if_icmp .eq 25, 3) := by decide +kernel
theorem dX8_plus_25 : decode cX8_plus 25 = .ok (.aload_n 0, 1) := by decide +kernel
theorem dX8_plus_26 : decode cX8_plus 26 = .ok (.aload_n 1, 1) := by decide +kernel
theorem dX8_plus_27 : decode cX8_plus 27 = .ok (.invokestatic 63, 3) := by decide +kernel
theorem dX8_plus_30 : decode cX8_plus 30 = .ok (.ifCond .ge 11, 3) := by decide +kernel
theorem dX8_plus_33 : decode cX8_plus 33 = .ok (.aload_n 1, 1) := by decide +kernel
theorem dX8_plus_34 : decode cX8_plus 34 = .ok (.aload_n 0, 1) := by decide +kernel
theorem dX8_plus_35 : decode cX8_plus 35 = .ok (.invokestatic 67, 3) := by decide +kernel
theorem dX8_plus_38 : decode cX8_plus 38 = .ok (.goto 8, 3) := by decide +kernel
theorem dX8_plus_41 : decode cX8_plus 41 = .ok (.aload_n 0, 1) := by decide +kernel
theorem dX8_plus_42 : decode cX8_plus 42 = .ok (.aload_n 1, 1) := by decide +kernel
theorem dX8_plus_43 : decode cX8_plus 43 = .ok (.invokestatic 67, 3) := by decide +kernel
theorem dX8_plus_46 : decode cX8_plus 46 = .ok (.areturn, 1) := by decide +kernel
theorem dX8_plus_47 : decode cX8_plus 47 = .ok (.aload_n 0, 1) := by decide +kernel
theorem dX8_plus_48 : decode cX8_plus 48 = .ok (.arraylength, 1) := by decide +kernel
theorem dX8_plus_49 : decode cX8_plus 49 = .ok (.aload_n 1, 1) := by decide +kernel
theorem dX8_plus_50 : decode cX8_plus 50 = .ok (.arraylength, 1) := by decide +kernel
theorem dX8_plus_51 : decode cX8_plus 51 = .ok (.invokestatic 71, 3) := by decide +kernel
theorem dX8_plus_54 : decode cX8_plus 54 = .ok (.iconst 1, 1) := by decide +kernel
theorem dX8_plus_55 : decode cX8_plus 55 = .ok (.iadd, 1) := by decide +kernel
theorem dX8_plus_56 : decode cX8_plus 56 = .ok (.newarray .int, 2) := by decide +kernel
theorem dX8_plus_58 : decode cX8_plus 58 = .ok (.astore_n 2, 1) := by decide +kernel
theorem dX8_plus_59 : decode cX8_plus 59 = .ok (.iconst 0, 1) := by decide +kernel
theorem dX8_plus_60 : decode cX8_plus 60 = .ok (.istore_n 3, 1) := by decide +kernel
theorem dX8_plus_61 : decode cX8_plus 61 = .ok (.iconst 1, 1) := by decide +kernel
theorem dX8_plus_62 : decode cX8_plus 62 = .ok (.istore 4, 2) := by decide +kernel
theorem dX8_plus_64 : decode cX8_plus 64 = .ok (.iload 4, 2) := by decide +kernel
theorem dX8_plus_66 : decode cX8_plus 66 = .ok (.aload_n 2, 1) := by decide +kernel
theorem dX8_plus_67 : decode cX8_plus 67 = .ok (.arraylength, 1) := by decide +kernel
theorem dX8_plus_68 : decode cX8_plus 68 = .ok (.if_icmp .ge 65, 3) := by decide +kernel
theorem dX8_plus_71 : decode cX8_plus 71 = .ok (.iload_n 3, 1) := by decide +kernel
theorem dX8_plus_72 : decode cX8_plus 72 = .ok (.i2l, 1) := by decide +kernel
theorem dX8_plus_73 : decode cX8_plus 73 = .ok (.iload 4, 2) := by decide +kernel
theorem dX8_plus_75 : decode cX8_plus 75 = .ok (.aload_n 0, 1) := by decide +kernel
theorem dX8_plus_76 : decode cX8_plus 76 = .ok (.arraylength, 1) := by decide +kernel
theorem dX8_plus_77 : decode cX8_plus 77 = .ok (.if_icmp .ge 10, 3) := by decide +kernel
theorem dX8_plus_80 : decode cX8_plus 80 = .ok (.aload_n 0, 1) := by decide +kernel
theorem dX8_plus_81 : decode cX8_plus 81 = .ok (.iload 4, 2) := by decide +kernel
theorem dX8_plus_83 : decode cX8_plus 83 = .ok (.iaload, 1) := by decide +kernel
theorem dX8_plus_84 : decode cX8_plus 84 = .ok (.goto 4, 3) := by decide +kernel
theorem dX8_plus_87 : decode cX8_plus 87 = .ok (.iconst 0, 1) := by decide +kernel
theorem dX8_plus_88 : decode cX8_plus 88 = .ok (.i2l, 1) := by decide +kernel
theorem dX8_plus_89 : decode cX8_plus 89 = .ok (.ladd, 1) := by decide +kernel
theorem dX8_plus_90 : decode cX8_plus 90 = .ok (.iload 4, 2) := by decide +kernel
theorem dX8_plus_92 : decode cX8_plus 92 = .ok (.aload_n 1, 1) := by decide +kernel
theorem dX8_plus_93 : decode cX8_plus 93 = .ok (.arraylength, 1) := by decide +kernel
theorem dX8_plus_94 : decode cX8_plus 94 = .ok (.if_icmp .ge 10, 3) := by decide +kernel
theorem dX8_plus_97 : decode cX8_plus 97 = .ok (.aload_n 1, 1) := by decide +kernel
theorem dX8_plus_98 : decode cX8_plus 98 = .ok (.iload 4, 2) := by decide +kernel
theorem dX8_plus_100 : decode cX8_plus 100 = .ok (.iaload, 1) := by decide +kernel
theorem dX8_plus_101 : decode cX8_plus 101 = .ok (.goto 4, 3) := by decide +kernel
theorem dX8_plus_104 : decode cX8_plus 104 = .ok (.iconst 0, 1) := by decide +kernel
theorem dX8_plus_105 : decode cX8_plus 105 = .ok (.i2l, 1) := by decide +kernel
theorem dX8_plus_106 : decode cX8_plus 106 = .ok (.ladd, 1) := by decide +kernel
theorem dX8_plus_107 : decode cX8_plus 107 = .ok (.lstore 5, 2) := by decide +kernel
theorem dX8_plus_109 : decode cX8_plus 109 = .ok (.aload_n 2, 1) := by decide +kernel
theorem dX8_plus_110 : decode cX8_plus 110 = .ok (.iload 4, 2) := by decide +kernel
theorem dX8_plus_112 : decode cX8_plus 112 = .ok (.lload 5, 2) := by decide +kernel
theorem dX8_plus_114 : decode cX8_plus 114 = .ok (.ldc2_w 53, 3) := by decide +kernel
theorem dX8_plus_117 : decode cX8_plus 117 = .ok (.land, 1) := by decide +kernel
theorem dX8_plus_118 : decode cX8_plus 118 = .ok (.l2i, 1) := by decide +kernel
theorem dX8_plus_119 : decode cX8_plus 119 = .ok (.iastore, 1) := by decide +kernel
theorem dX8_plus_120 : decode cX8_plus 120 = .ok (.lload 5, 2) := by decide +kernel
theorem dX8_plus_122 : decode cX8_plus 122 = .ok (.bipush 30, 2) := by decide +kernel
theorem dX8_plus_124 : decode cX8_plus 124 = .ok (.lshr, 1) := by decide +kernel
theorem dX8_plus_125 : decode cX8_plus 125 = .ok (.l2i, 1) := by decide +kernel
theorem dX8_plus_126 : decode cX8_plus 126 = .ok (.istore_n 3, 1) := by decide +kernel
theorem dX8_plus_127 : decode cX8_plus 127 = .ok (.iinc 4 1, 3) := by decide +kernel
theorem dX8_plus_130 : decode cX8_plus 130 = .ok (.goto (-66), 3) := by decide +kernel
theorem dX8_plus_133 : decode cX8_plus 133 = .ok (.aload_n 0, 1) := by decide +kernel
theorem dX8_plus_134 : decode cX8_plus 134 = .ok (.iconst 0, 1) := by decide +kernel
theorem dX8_plus_135 : decode cX8_plus 135 = .ok (.iaload, 1) := by decide +kernel
theorem dX8_plus_136 : decode cX8_plus 136 = .ok (.aload_n 2, 1) := by decide +kernel
theorem dX8_plus_137 : decode cX8_plus 137 = .ok (.invokestatic 55, 3) := by decide +kernel
theorem dX8_plus_140 : decode cX8_plus 140 = .ok (.areturn, 1) := by decide +kernel
theorem dX8_less_0 : decode cX8_less 0 = .ok (.aload_n 0, 1) := by decide +kernel
theorem dX8_less_1 : decode cX8_less 1 = .ok (.arraylength, 1) := by decide +kernel
theorem dX8_less_2 : decode cX8_less 2 = .ok (.newarray .int, 2) := by decide +kernel
theorem dX8_less_4 : decode cX8_less 4 = .ok (.astore_n 2, 1) := by decide +kernel
theorem dX8_less_5 : decode cX8_less 5 = .ok (.iconst 0, 1) := by decide +kernel
theorem dX8_less_6 : decode cX8_less 6 = .ok (.istore_n 3, 1) := by decide +kernel
theorem dX8_less_7 : decode cX8_less 7 = .ok (.iconst 1, 1) := by decide +kernel
theorem dX8_less_8 : decode cX8_less 8 = .ok (.istore 4, 2) := by decide +kernel
theorem dX8_less_10 : decode cX8_less 10 = .ok (.iload 4, 2) := by decide +kernel
theorem dX8_less_12 : decode cX8_less 12 = .ok (.aload_n 0, 1) := by decide +kernel
theorem dX8_less_13 : decode cX8_less 13 = .ok (.arraylength, 1) := by decide +kernel
theorem dX8_less_14 : decode cX8_less 14 = .ok (.if_icmp .ge 55, 3) := by decide +kernel
theorem dX8_less_17 : decode cX8_less 17 = .ok (.aload_n 0, 1) := by decide +kernel
theorem dX8_less_18 : decode cX8_less 18 = .ok (.iload 4, 2) := by decide +kernel
theorem dX8_less_20 : decode cX8_less 20 = .ok (.iaload, 1) := by decide +kernel
theorem dX8_less_21 : decode cX8_less 21 = .ok (.iload_n 3, 1) := by decide +kernel
theorem dX8_less_22 : decode cX8_less 22 = .ok (.isub, 1) := by decide +kernel
theorem dX8_less_23 : decode cX8_less 23 = .ok (.iload 4, 2) := by decide +kernel
theorem dX8_less_25 : decode cX8_less 25 = .ok (.aload_n 1, 1) := by decide +kernel
theorem dX8_less_26 : decode cX8_less 26 = .ok (.arraylength, 1) := by decide +kernel
theorem dX8_less_27 : decode cX8_less 27 = .ok (.if_icmp .ge 10, 3) := by decide +kernel
theorem dX8_less_30 : decode cX8_less 30 = .ok (.aload_n 1, 1) := by decide +kernel
theorem dX8_less_31 : decode cX8_less 31 = .ok (.iload 4, 2) := by decide +kernel
theorem dX8_less_33 : decode cX8_less 33 = .ok (.iaload, 1) := by decide +kernel
theorem dX8_less_34 : decode cX8_less 34 = .ok (.goto 4, 3) := by decide +kernel
theorem dX8_less_37 : decode cX8_less 37 = .ok (.iconst 0, 1) := by decide +kernel
theorem dX8_less_38 : decode cX8_less 38 = .ok (.isub, 1) := by decide +kernel
theorem dX8_less_39 : decode cX8_less 39 = .ok (.istore 5, 2) := by decide +kernel
theorem dX8_less_41 : decode cX8_less 41 = .ok (.iload 5, 2) := by decide +kernel
theorem dX8_less_43 : decode cX8_less 43 = .ok (.ifCond .ge 7, 3) := by decide +kernel
theorem dX8_less_46 : decode cX8_less 46 = .ok (.iconst 1, 1) := by decide +kernel
theorem dX8_less_47 : decode cX8_less 47 = .ok (.goto 4, 3) := by decide +kernel
theorem dX8_less_50 : decode cX8_less 50 = .ok (.iconst 0, 1) := by decide +kernel
theorem dX8_less_51 : decode cX8_less 51 = .ok (.istore_n 3, 1) := by decide +kernel
theorem dX8_less_52 : decode cX8_less 52 = .ok (.aload_n 2, 1) := by decide +kernel
theorem dX8_less_53 : decode cX8_less 53 = .ok (.iload 4, 2) := by decide +kernel
theorem dX8_less_55 : decode cX8_less 55 = .ok (.iload 5, 2) := by decide +kernel
theorem dX8_less_57 : decode cX8_less 57 = .ok (.iload_n 3, 1) := by decide +kernel
theorem dX8_less_58 : decode cX8_less 58 = .ok (.bipush 30, 2) := by decide +kernel
theorem dX8_less_60 : decode cX8_less 60 = .ok (.ishl, 1) := by decide +kernel
theorem dX8_less_61 : decode cX8_less 61 = .ok (.iadd, 1) := by decide +kernel
theorem dX8_less_62 : decode cX8_less 62 = .ok (.iastore, 1) := by decide +kernel
theorem dX8_less_63 : decode cX8_less 63 = .ok (.iinc 4 1, 3) := by decide +kernel
theorem dX8_less_66 : decode cX8_less 66 = .ok (.goto (-56), 3) := by decide +kernel
theorem dX8_less_69 : decode cX8_less 69 = .ok (.aload_n 0, 1) := by decide +kernel
theorem dX8_less_70 : decode cX8_less 70 = .ok (.iconst 0, 1) := by decide +kernel
theorem dX8_less_71 : decode cX8_less 71 = .ok (.iaload, 1) := by decide +kernel
theorem dX8_less_72 : decode cX8_less 72 = .ok (.aload_n 2, 1) := by decide +kernel
theorem dX8_less_73 : decode cX8_less 73 = .ok (.invokestatic 55, 3) := by decide +kernel
theorem dX8_less_76 : decode cX8_less 76 = .ok (.areturn, 1) := by decide +kernel
theorem dX8_minus_0 : decode cX8_minus 0 = .ok (.aload_n 0, 1) := by decide +kernel
theorem dX8_minus_1 : decode cX8_minus 1 = .ok (.aload_n 1, 1) := by decide +kernel
theorem dX8_minus_2 : decode cX8_minus 2 = .ok (.aload_n 1, 1) := by decide +kernel
theorem dX8_minus_3 : decode cX8_minus 3 = .ok (.iconst 0, 1) := by decide +kernel
theorem dX8_minus_4 : decode cX8_minus 4 = .ok (.iaload, 1) := by decide +kernel
theorem dX8_minus_5 : decode cX8_minus 5 = .ok (.ineg, 1) := by decide +kernel
theorem dX8_minus_6 : decode cX8_minus 6 = .ok (.invokestatic 77, 3) := by decide +kernel
theorem dX8_minus_9 : decode cX8_minus 9 = .ok (.invokestatic 81, 3) := by decide +kernel
theorem dX8_minus_12 : decode cX8_minus 12 = .ok (.areturn, 1) := by decide +kernel
theorem dX8_times_0 : decode cX8_times 0 = .ok (.aload_n 0, 1) := by decide +kernel
theorem dX8_times_1 : decode cX8_times 1 = .ok (.arraylength, 1) := by decide +kernel
theorem dX8_times_2 : decode cX8_times 2 = .ok (.aload_n 1, 1) := by decide +kernel
theorem dX8_times_3 : decode cX8_times 3 = .ok (.arraylength, 1) := by decide +kernel
theorem dX8_times_4 : decode cX8_times 4 = .ok (.iadd, 1) := by decide +kernel
theorem dX8_times_5 : decode cX8_times 5 = .ok (.newarray .int, 2) := by decide +kernel
theorem dX8_times_7 : decode cX8_times 7 = .ok (.astore_n 2, 1) := by decide +kernel
theorem dX8_times_8 : decode cX8_times 8 = .ok (.iconst 1, 1) := by decide +kernel
theorem dX8_times_9 : decode cX8_times 9 = .ok (.istore_n 3, 1) := by decide +kernel
theorem dX8_times_10 : decode cX8_times 10 = .ok (.iload_n 3, 1) := by decide +kernel
theorem dX8_times_11 : decode cX8_times 11 = .ok (.aload_n 0, 1) := by decide +kernel
theorem dX8_times_12 : decode cX8_times 12 = .ok (.arraylength, 1) := by decide +kernel
theorem dX8_times_13 : decode cX8_times 13 = .ok (.if_icmp .ge 86, 3) := by decide +kernel
theorem dX8_times_16 : decode cX8_times 16 = .ok (.lconst 0, 1) := by decide +kernel
theorem dX8_times_17 : decode cX8_times 17 = .ok (.lstore 4, 2) := by decide +kernel
theorem dX8_times_19 : decode cX8_times 19 = .ok (.iconst 1, 1) := by decide +kernel
theorem dX8_times_20 : decode cX8_times 20 = .ok (.istore 6, 2) := by decide +kernel
theorem dX8_times_22 : decode cX8_times 22 = .ok (.iload 6, 2) := by decide +kernel
theorem dX8_times_24 : decode cX8_times 24 = .ok (.aload_n 1, 1) := by decide +kernel
theorem dX8_times_25 : decode cX8_times 25 = .ok (.arraylength, 1) := by decide +kernel
theorem dX8_times_26 : decode cX8_times 26 = .ok (.if_icmp .ge 56, 3) := by decide +kernel
theorem dX8_times_29 : decode cX8_times 29 = .ok (.lload 4, 2) := by decide +kernel
theorem dX8_times_31 : decode cX8_times 31 = .ok (.aload_n 0, 1) := by decide +kernel
theorem dX8_times_32 : decode cX8_times 32 = .ok (.iload_n 3, 1) := by decide +kernel
theorem dX8_times_33 : decode cX8_times 33 = .ok (.iaload, 1) := by decide +kernel
theorem dX8_times_34 : decode cX8_times 34 = .ok (.i2l, 1) := by decide +kernel
theorem dX8_times_35 : decode cX8_times 35 = .ok (.aload_n 1, 1) := by decide +kernel
theorem dX8_times_36 : decode cX8_times 36 = .ok (.iload 6, 2) := by decide +kernel
theorem dX8_times_38 : decode cX8_times 38 = .ok (.iaload, 1) := by decide +kernel
theorem dX8_times_39 : decode cX8_times 39 = .ok (.i2l, 1) := by decide +kernel
theorem dX8_times_40 : decode cX8_times 40 = .ok (.lmul, 1) := by decide +kernel
theorem dX8_times_41 : decode cX8_times 41 = .ok (.aload_n 2, 1) := by decide +kernel
theorem dX8_times_42 : decode cX8_times 42 = .ok (.iload_n 3, 1) := by decide +kernel
theorem dX8_times_43 : decode cX8_times 43 = .ok (.iload 6, 2) := by decide +kernel
theorem dX8_times_45 : decode cX8_times 45 = .ok (.iadd, 1) := by decide +kernel
theorem dX8_times_46 : decode cX8_times 46 = .ok (.iconst 1, 1) := by decide +kernel
theorem dX8_times_47 : decode cX8_times 47 = .ok (.isub, 1) := by decide +kernel
theorem dX8_times_48 : decode cX8_times 48 = .ok (.iaload, 1) := by decide +kernel
theorem dX8_times_49 : decode cX8_times 49 = .ok (.i2l, 1) := by decide +kernel
theorem dX8_times_50 : decode cX8_times 50 = .ok (.ladd, 1) := by decide +kernel
theorem dX8_times_51 : decode cX8_times 51 = .ok (.ladd, 1) := by decide +kernel
theorem dX8_times_52 : decode cX8_times 52 = .ok (.lstore 4, 2) := by decide +kernel
theorem dX8_times_54 : decode cX8_times 54 = .ok (.aload_n 2, 1) := by decide +kernel
theorem dX8_times_55 : decode cX8_times 55 = .ok (.iload_n 3, 1) := by decide +kernel
theorem dX8_times_56 : decode cX8_times 56 = .ok (.iload 6, 2) := by decide +kernel
theorem dX8_times_58 : decode cX8_times 58 = .ok (.iadd, 1) := by decide +kernel
theorem dX8_times_59 : decode cX8_times 59 = .ok (.iconst 1, 1) := by decide +kernel
theorem dX8_times_60 : decode cX8_times 60 = .ok (.isub, 1) := by decide +kernel
theorem dX8_times_61 : decode cX8_times 61 = .ok (.lload 4, 2) := by decide +kernel
theorem dX8_times_63 : decode cX8_times 63 = .ok (.ldc2_w 53, 3) := by decide +kernel
theorem dX8_times_66 : decode cX8_times 66 = .ok (.land, 1) := by decide +kernel
theorem dX8_times_67 : decode cX8_times 67 = .ok (.l2i, 1) := by decide +kernel
theorem dX8_times_68 : decode cX8_times 68 = .ok (.iastore, 1) := by decide +kernel
theorem dX8_times_69 : decode cX8_times 69 = .ok (.lload 4, 2) := by decide +kernel
theorem dX8_times_71 : decode cX8_times 71 = .ok (.bipush 30, 2) := by decide +kernel
theorem dX8_times_73 : decode cX8_times 73 = .ok (.lshr, 1) := by decide +kernel
theorem dX8_times_74 : decode cX8_times 74 = .ok (.lstore 4, 2) := by decide +kernel
theorem dX8_times_76 : decode cX8_times 76 = .ok (.iinc 6 1, 3) := by decide +kernel
theorem dX8_times_79 : decode cX8_times 79 = .ok (.goto (-57), 3) := by decide +kernel
theorem dX8_times_82 : decode cX8_times 82 = .ok (.aload_n 2, 1) := by decide +kernel
theorem dX8_times_83 : decode cX8_times 83 = .ok (.iload_n 3, 1) := by decide +kernel
theorem dX8_times_84 : decode cX8_times 84 = .ok (.aload_n 1, 1) := by decide +kernel
theorem dX8_times_85 : decode cX8_times 85 = .ok (.arraylength, 1) := by decide +kernel
theorem dX8_times_86 : decode cX8_times 86 = .ok (.iadd, 1) := by decide +kernel
theorem dX8_times_87 : decode cX8_times 87 = .ok (.iconst 1, 1) := by decide +kernel
theorem dX8_times_88 : decode cX8_times 88 = .ok (.isub, 1) := by decide +kernel
theorem dX8_times_89 : decode cX8_times 89 = .ok (.lload 4, 2) := by decide +kernel
theorem dX8_times_91 : decode cX8_times 91 = .ok (.l2i, 1) := by decide +kernel
theorem dX8_times_92 : decode cX8_times 92 = .ok (.iastore, 1) := by decide +kernel
theorem dX8_times_93 : decode cX8_times 93 = .ok (.iinc 3 1, 3) := by decide +kernel
theorem dX8_times_96 : decode cX8_times 96 = .ok (.goto (-86), 3) := by decide +kernel
theorem dX8_times_99 : decode cX8_times 99 = .ok (.aload_n 0, 1) := by decide +kernel
theorem dX8_times_100 : decode cX8_times 100 = .ok (.iconst 0, 1) := by decide +kernel
theorem dX8_times_101 : decode cX8_times 101 = .ok (.iaload, 1) := by decide +kernel
theorem dX8_times_102 : decode cX8_times 102 = .ok (.aload_n 1, 1) := by decide +kernel
theorem dX8_times_103 : decode cX8_times 103 = .ok (.iconst 0, 1) := by decide +kernel
theorem dX8_times_104 : decode cX8_times 104 = .ok (.iaload, 1) := by decide +kernel
theorem dX8_times_105 : decode cX8_times 105 = .ok (.imul, 1) := by decide +kernel
theorem dX8_times_106 : decode cX8_times 106 = .ok (.aload_n 2, 1) := by decide +kernel
theorem dX8_times_107 : decode cX8_times 107 = .ok (.invokestatic 55, 3) := by decide +kernel
theorem dX8_times_110 : decode cX8_times 110 = .ok (.areturn, 1) := by decide +kernel
theorem dX8_divide_0 : decode cX8_divide 0 = .ok (.lconst 0, 1) := by decide +kernel
theorem dX8_divide_1 : decode cX8_divide 1 = .ok (.lstore_n 2, 1) := by decide +kernel
theorem dX8_divide_2 : decode cX8_divide 2 = .ok (.aload_n 0, 1) := by decide +kernel
theorem dX8_divide_3 : decode cX8_divide 3 = .ok (.arraylength, 1) := by decide +kernel
theorem dX8_divide_4 : decode cX8_divide 4 = .ok (.iconst 1, 1) := by decide +kernel
theorem dX8_divide_5 : decode cX8_divide 5 = .ok (.isub, 1) := by decide +kernel
theorem dX8_divide_6 : decode cX8_divide 6 = .ok (.istore 4, 2) := by decide +kernel
theorem dX8_divide_8 : decode cX8_divide 8 = .ok (.iload 4, 2) := by decide +kernel
theorem dX8_divide_10 : decode cX8_divide 10 = .ok (.ifCond .le 34, 3) := by decide +kernel
theorem dX8_divide_13 : decode cX8_divide 13 = .ok (.lload_n 2, 1) := by decide +kernel
theorem dX8_divide_14 : decode cX8_divide 14 = .ok (.bipush 30, 2) := by decide +kernel
theorem dX8_divide_16 : decode cX8_divide 16 = .ok (.lshl, 1) := by decide +kernel
theorem dX8_divide_17 : decode cX8_divide 17 = .ok (.aload_n 0, 1) := by decide +kernel
theorem dX8_divide_18 : decode cX8_divide 18 = .ok (.iload 4, 2) := by decide +kernel
theorem dX8_divide_20 : decode cX8_divide 20 = .ok (.iaload, 1) := by decide +kernel
theorem dX8_divide_21 : decode cX8_divide 21 = .ok (.i2l, 1) := by decide +kernel
theorem dX8_divide_22 : decode cX8_divide 22 = .ok (.lor, 1) := by decide +kernel
theorem dX8_divide_23 : decode cX8_divide 23 = .ok (.lstore_n 2, 1) := by decide +kernel
theorem dX8_divide_24 : decode cX8_divide 24 = .ok (.aload_n 0, 1) := by decide +kernel
theorem dX8_divide_25 : decode cX8_divide 25 = .ok (.iload 4, 2) := by decide +kernel
theorem dX8_divide_27 : decode cX8_divide 27 = .ok (.lload_n 2, 1) := by decide +kernel
theorem dX8_divide_28 : decode cX8_divide 28 = .ok (.iload_n 1, 1) := by decide +kernel
theorem dX8_divide_29 : decode cX8_divide 29 = .ok (.i2l, 1) := by decide +kernel
theorem dX8_divide_30 : decode cX8_divide 30 = .ok (.ldiv, 1) := by decide +kernel
theorem dX8_divide_31 : decode cX8_divide 31 = .ok (.l2i, 1) := by decide +kernel
theorem dX8_divide_32 : decode cX8_divide 32 = .ok (.iastore, 1) := by decide +kernel
theorem dX8_divide_33 : decode cX8_divide 33 = .ok (.lload_n 2, 1) := by decide +kernel
theorem dX8_divide_34 : decode cX8_divide 34 = .ok (.iload_n 1, 1) := by decide +kernel
theorem dX8_divide_35 : decode cX8_divide 35 = .ok (.i2l, 1) := by decide +kernel
theorem dX8_divide_36 : decode cX8_divide 36 = .ok (.lrem, 1) := by decide +kernel
theorem dX8_divide_37 : decode cX8_divide 37 = .ok (.lstore_n 2, 1) := by decide +kernel
theorem dX8_divide_38 : decode cX8_divide 38 = .ok (.iinc 4 (-1), 3) := by decide +kernel
theorem dX8_divide_41 : decode cX8_divide 41 = .ok (.goto (-33), 3) := by decide +kernel
theorem dX8_divide_44 : decode cX8_divide 44 = .ok (.lload_n 2, 1) := by decide +kernel
theorem dX8_divide_45 : decode cX8_divide 45 = .ok (.l2i, 1) := by decide +kernel
theorem dX8_divide_46 : decode cX8_divide 46 = .ok (.ireturn, 1) := by decide +kernel
theorem dX8_isNone_0 : decode cX8_isNone 0 = .ok (.iconst 1, 1) := by decide +kernel
theorem dX8_isNone_1 : decode cX8_isNone 1 = .ok (.istore_n 1, 1) := by decide +kernel
theorem dX8_isNone_2 : decode cX8_isNone 2 = .ok (.iconst 1, 1) := by decide +kernel
theorem dX8_isNone_3 : decode cX8_isNone 3 = .ok (.istore_n 2, 1) := by decide +kernel
theorem dX8_isNone_4 : decode cX8_isNone 4 = .ok (.iload_n 2, 1) := by decide +kernel
theorem dX8_isNone_5 : decode cX8_isNone 5 = .ok (.aload_n 0, 1) := by decide +kernel
theorem dX8_isNone_6 : decode cX8_isNone 6 = .ok (.arraylength, 1) := by decide +kernel
theorem dX8_isNone_7 : decode cX8_isNone 7 = .ok (.if_icmp .ge 23, 3) := by decide +kernel
theorem dX8_isNone_10 : decode cX8_isNone 10 = .ok (.iload_n 1, 1) := by decide +kernel
theorem dX8_isNone_11 : decode cX8_isNone 11 = .ok (.aload_n 0, 1) := by decide +kernel
theorem dX8_isNone_12 : decode cX8_isNone 12 = .ok (.iload_n 2, 1) := by decide +kernel
theorem dX8_isNone_13 : decode cX8_isNone 13 = .ok (.iaload, 1) := by decide +kernel
theorem dX8_isNone_14 : decode cX8_isNone 14 = .ok (.ifCond .ne 7, 3) := by decide +kernel
theorem dX8_isNone_17 : decode cX8_isNone 17 = .ok (.iconst 1, 1) := by decide +kernel
theorem dX8_isNone_18 : decode cX8_isNone 18 = .ok (.goto 4, 3) := by decide +kernel
theorem dX8_isNone_21 : decode cX8_isNone 21 = .ok (.iconst 0, 1) := by decide +kernel
theorem dX8_isNone_22 : decode cX8_isNone 22 = .ok (.iand, 1) := by decide +kernel
theorem dX8_isNone_23 : decode cX8_isNone 23 = .ok (.istore_n 1, 1) := by decide +kernel
theorem dX8_isNone_24 : decode cX8_isNone 24 = .ok (.iinc 2 1, 3) := by decide +kernel
theorem dX8_isNone_27 : decode cX8_isNone 27 = .ok (.goto (-23), 3) := by decide +kernel
theorem dX8_isNone_30 : decode cX8_isNone 30 = .ok (.iload_n 1, 1) := by decide +kernel
theorem dX8_isNone_31 : decode cX8_isNone 31 = .ok (.ireturn, 1) := by decide +kernel
theorem dX8_text_0 : decode cX8_text 0 = .ok (.aload_n 0, 1) := by decide +kernel
theorem dX8_text_1 : decode cX8_text 1 = .ok (.iconst 0, 1) := by decide +kernel
theorem dX8_text_2 : decode cX8_text 2 = .ok (.iaload, 1) := by decide +kernel
theorem dX8_text_3 : decode cX8_text 3 = .ok (.ifCond .ne 6, 3) := by decide +kernel
theorem dX8_text_6 : decode cX8_text 6 = .ok (.ldc 84, 2) := by decide +kernel
theorem dX8_text_8 : decode cX8_text 8 = .ok (.areturn, 1) := by decide +kernel
theorem dX8_text_9 : decode cX8_text 9 = .ok (.aload_n 0, 1) := by decide +kernel
theorem dX8_text_10 : decode cX8_text 10 = .ok (.invokevirtual 59, 3) := by decide +kernel
theorem dX8_text_13 : decode cX8_text 13 = .ok (.checkcast 19, 3) := by decide +kernel
theorem dX8_text_16 : decode cX8_text 16 = .ok (.astore_n 2, 1) := by decide +kernel
theorem dX8_text_17 : decode cX8_text 17 = .ok (.new 86, 3) := by decide +kernel
theorem dX8_text_20 : decode cX8_text 20 = .ok (.dup, 1) := by decide +kernel
theorem dX8_text_21 : decode cX8_text 21 = .ok (.invokespecial 88, 3) := by decide +kernel
theorem dX8_text_24 : decode cX8_text 24 = .ok (.astore_n 3, 1) := by decide +kernel
theorem dX8_text_25 : decode cX8_text 25 = .ok (.aload_n 2, 1) := by decide +kernel
theorem dX8_text_26 : decode cX8_text 26 = .ok (.invokestatic 89, 3) := by decide +kernel
theorem dX8_text_29 : decode cX8_text 29 = .ok (.ifCond .ne 21, 3) := by decide +kernel
theorem dX8_text_32 : decode cX8_text 32 = .ok (.aload_n 3, 1) := by decide +kernel
theorem dX8_text_33 : decode cX8_text 33 = .ok (.ldc 93, 2) := by decide +kernel
theorem dX8_text_35 : decode cX8_text 35 = .ok (.aload_n 2, 1) := by decide +kernel
theorem dX8_text_36 : decode cX8_text 36 = .ok (.iload_n 1, 1) := by decide +kernel
theorem dX8_text_37 : decode cX8_text 37 = .ok (.invokestatic 95, 3) := by decide +kernel
theorem dX8_text_40 : decode cX8_text 40 = .ok (.invokevirtual 99, 3) := by decide +kernel
theorem dX8_text_43 : decode cX8_text 43 = .ok (.invokevirtual 105, 3) := by decide +kernel
theorem dX8_text_46 : decode cX8_text 46 = .ok (.pop, 1) := by decide +kernel
theorem dX8_text_47 : decode cX8_text 47 = .ok (.goto (-22), 3) := by decide +kernel
theorem dX8_text_50 : decode cX8_text 50 = .ok (.aload_n 0, 1) := by decide +kernel
theorem dX8_text_51 : decode cX8_text 51 = .ok (.iconst 0, 1) := by decide +kernel
theorem dX8_text_52 : decode cX8_text 52 = .ok (.iaload, 1) := by decide +kernel
theorem dX8_text_53 : decode cX8_text 53 = .ok (.ifCond .ge 10, 3) := by decide +kernel
theorem dX8_text_56 : decode cX8_text 56 = .ok (.aload_n 3, 1) := by decide +kernel
theorem dX8_text_57 : decode cX8_text 57 = .ok (.bipush 45, 2) := by decide +kernel
theorem dX8_text_59 : decode cX8_text 59 = .ok (.invokevirtual 105, 3) := by decide +kernel
theorem dX8_text_62 : decode cX8_text 62 = .ok (.pop, 1) := by decide +kernel
theorem dX8_text_63 : decode cX8_text 63 = .ok (.aload_n 3, 1) := by decide +kernel
theorem dX8_text_64 : decode cX8_text 64 = .ok (.invokevirtual 109, 3) := by decide +kernel
theorem dX8_text_67 : decode cX8_text 67 = .ok (.invokevirtual 113, 3) := by decide +kernel
theorem dX8_text_70 : decode cX8_text 70 = .ok (.areturn, 1) := by decide +kernel
theorem dX8_last_0 : decode cX8_last 0 = .ok (.lconst 0, 1) := by decide +kernel
theorem dX8_last_1 : decode cX8_last 1 = .ok (.lstore_n 1, 1) := by decide +kernel
theorem dX8_last_2 : decode cX8_last 2 = .ok (.iconst 1, 1) := by decide +kernel
theorem dX8_last_3 : decode cX8_last 3 = .ok (.istore_n 3, 1) := by decide +kernel
theorem dX8_last_4 : decode cX8_last 4 = .ok (.iload_n 3, 1) := by decide +kernel
theorem dX8_last_5 : decode cX8_last 5 = .ok (.aload_n 0, 1) := by decide +kernel
theorem dX8_last_6 : decode cX8_last 6 = .ok (.arraylength, 1) := by decide +kernel
theorem dX8_last_7 : decode cX8_last 7 = .ok (.if_icmp .ge 28, 3) := by decide +kernel
theorem dX8_last_10 : decode cX8_last 10 = .ok (.iload_n 3, 1) := by decide +kernel
theorem dX8_last_11 : decode cX8_last 11 = .ok (.iconst 4, 1) := by decide +kernel
theorem dX8_last_12 : decode cX8_last 12 = .ok (.if_icmp .ge 23, 3) := by decide +kernel
theorem dX8_last_15 : decode cX8_last 15 = .ok (.lload_n 1, 1) := by decide +kernel
theorem dX8_last_16 : decode cX8_last 16 = .ok (.aload_n 0, 1) := by decide +kernel
theorem dX8_last_17 : decode cX8_last 17 = .ok (.iload_n 3, 1) := by decide +kernel
theorem dX8_last_18 : decode cX8_last 18 = .ok (.iaload, 1) := by decide +kernel
theorem dX8_last_19 : decode cX8_last 19 = .ok (.i2l, 1) := by decide +kernel
theorem dX8_last_20 : decode cX8_last 20 = .ok (.bipush 30, 2) := by decide +kernel
theorem dX8_last_22 : decode cX8_last 22 = .ok (.iload_n 3, 1) := by decide +kernel
theorem dX8_last_23 : decode cX8_last 23 = .ok (.iconst 1, 1) := by decide +kernel
theorem dX8_last_24 : decode cX8_last 24 = .ok (.isub, 1) := by decide +kernel
theorem dX8_last_25 : decode cX8_last 25 = .ok (.imul, 1) := by decide +kernel
theorem dX8_last_26 : decode cX8_last 26 = .ok (.lshl, 1) := by decide +kernel
theorem dX8_last_27 : decode cX8_last 27 = .ok (.ladd, 1) := by decide +kernel
theorem dX8_last_28 : decode cX8_last 28 = .ok (.lstore_n 1, 1) := by decide +kernel
theorem dX8_last_29 : decode cX8_last 29 = .ok (.iinc 3 1, 3) := by decide +kernel
theorem dX8_last_32 : decode cX8_last 32 = .ok (.goto (-28), 3) := by decide +kernel
theorem dX8_last_35 : decode cX8_last 35 = .ok (.aload_n 0, 1) := by decide +kernel
theorem dX8_last_36 : decode cX8_last 36 = .ok (.iconst 0, 1) := by decide +kernel
theorem dX8_last_37 : decode cX8_last 37 = .ok (.iaload, 1) := by decide +kernel
theorem dX8_last_38 : decode cX8_last 38 = .ok (.i2l, 1) := by decide +kernel
theorem dX8_last_39 : decode cX8_last 39 = .ok (.lload_n 1, 1) := by decide +kernel
theorem dX8_last_40 : decode cX8_last 40 = .ok (.lmul, 1) := by decide +kernel
theorem dX8_last_41 : decode cX8_last 41 = .ok (.lreturn, 1) := by decide +kernel
theorem dX8_isDigit_0 : decode cX8_isDigit 0 = .ok (.iload_n 1, 1) := by decide +kernel
theorem dX8_isDigit_1 : decode cX8_isDigit 1 = .ok (.bipush 30, 2) := by decide +kernel
theorem dX8_isDigit_3 : decode cX8_isDigit 3 = .ok (.idiv, 1) := by decide +kernel
theorem dX8_isDigit_4 : decode cX8_isDigit 4 = .ok (.iconst 1, 1) := by decide +kernel
theorem dX8_isDigit_5 : decode cX8_isDigit 5 = .ok (.iadd, 1) := by decide +kernel
theorem dX8_isDigit_6 : decode cX8_isDigit 6 = .ok (.istore_n 2, 1) := by decide +kernel
theorem dX8_isDigit_7 : decode cX8_isDigit 7 = .ok (.iload_n 2, 1) := by decide +kernel
theorem dX8_isDigit_8 : decode cX8_isDigit 8 = .ok (.aload_n 0, 1) := by decide +kernel
theorem dX8_isDigit_9 : decode cX8_isDigit 9 = .ok (.arraylength, 1) := by decide +kernel
theorem dX8_isDigit_10 : decode cX8_isDigit 10 = .ok (.if_icmp .ge 21, 3) := by decide +kernel
theorem dX8_isDigit_13 : decode cX8_isDigit 13 = .ok (.aload_n 0, 1) := by decide +kernel
theorem dX8_isDigit_14 : decode cX8_isDigit 14 = .ok (.iload_n 2, 1) := by decide +kernel
theorem dX8_isDigit_15 : decode cX8_isDigit 15 = .ok (.iaload, 1) := by decide +kernel
theorem dX8_isDigit_16 : decode cX8_isDigit 16 = .ok (.iload_n 1, 1) := by decide +kernel
theorem dX8_isDigit_17 : decode cX8_isDigit 17 = .ok (.bipush 30, 2) := by decide +kernel
theorem dX8_isDigit_19 : decode cX8_isDigit 19 = .ok (.irem, 1) := by decide +kernel
theorem dX8_isDigit_20 : decode cX8_isDigit 20 = .ok (.ishr, 1) := by decide +kernel
theorem dX8_isDigit_21 : decode cX8_isDigit 21 = .ok (.iconst 1, 1) := by decide +kernel
theorem dX8_isDigit_22 : decode cX8_isDigit 22 = .ok (.iand, 1) := by decide +kernel
theorem dX8_isDigit_23 : decode cX8_isDigit 23 = .ok (.iconst 1, 1) := by decide +kernel
theorem dX8_isDigit_24 : decode cX8_isDigit 24 = .ok (.if_icmp .ne 7, 3) := by decide +kernel
theorem dX8_isDigit_27 : decode cX8_isDigit 27 = .ok (.iconst 1, 1) := by decide +kernel
theorem dX8_isDigit_28 : decode cX8_isDigit 28 = .ok (.goto 4, 3) := by decide +kernel
theorem dX8_isDigit_31 : decode cX8_isDigit 31 = .ok (.iconst 0, 1) := by decide +kernel
theorem dX8_isDigit_32 : decode cX8_isDigit 32 = .ok (.ireturn, 1) := by decide +kernel
theorem dX8_bits_0 : decode cX8_bits 0 = .ok (.iconst (-1), 1) := by decide +kernel
theorem dX8_bits_1 : decode cX8_bits 1 = .ok (.istore_n 2, 1) := by decide +kernel
theorem dX8_bits_2 : decode cX8_bits 2 = .ok (.iconst (-1), 1) := by decide +kernel
theorem dX8_bits_3 : decode cX8_bits 3 = .ok (.istore_n 3, 1) := by decide +kernel
theorem dX8_bits_4 : decode cX8_bits 4 = .ok (.iconst 0, 1) := by decide +kernel
theorem dX8_bits_5 : decode cX8_bits 5 = .ok (.istore 4, 2) := by decide +kernel
theorem dX8_bits_7 : decode cX8_bits 7 = .ok (.iconst 0, 1) := by decide +kernel
theorem dX8_bits_8 : decode cX8_bits 8 = .ok (.istore 5, 2) := by decide +kernel
theorem dX8_bits_10 : decode cX8_bits 10 = .ok (.iload 5, 2) := by decide +kernel
theorem dX8_bits_12 : decode cX8_bits 12 = .ok (.bipush 30, 2) := by decide +kernel
theorem dX8_bits_14 : decode cX8_bits 14 = .ok (.aload_n 0, 1) := by decide +kernel
theorem dX8_bits_15 : decode cX8_bits 15 = .ok (.arraylength, 1) := by decide +kernel
theorem dX8_bits_16 : decode cX8_bits 16 = .ok (.iconst 1, 1) := by decide +kernel
theorem dX8_bits_17 : decode cX8_bits 17 = .ok (.isub, 1) := by decide +kernel
theorem dX8_bits_18 : decode cX8_bits 18 = .ok (.imul, 1) := by decide +kernel
theorem dX8_bits_19 : decode cX8_bits 19 = .ok (.if_icmp .ge 34, 3) := by decide +kernel
theorem dX8_bits_22 : decode cX8_bits 22 = .ok (.aload_n 0, 1) := by decide +kernel
theorem dX8_bits_23 : decode cX8_bits 23 = .ok (.iload 5, 2) := by decide +kernel
theorem dX8_bits_25 : decode cX8_bits 25 = .ok (.invokestatic 117, 3) := by decide +kernel
theorem dX8_bits_28 : decode cX8_bits 28 = .ok (.ifCond .ne 6, 3) := by decide +kernel
theorem dX8_bits_31 : decode cX8_bits 31 = .ok (.goto 16, 3) := by decide +kernel
theorem dX8_bits_34 : decode cX8_bits 34 = .ok (.iload_n 3, 1) := by decide +kernel
theorem dX8_bits_35 : decode cX8_bits 35 = .ok (.ifCond .ge 6, 3) := by decide +kernel
theorem dX8_bits_38 : decode cX8_bits 38 = .ok (.iload 5, 2) := by decide +kernel
theorem dX8_bits_40 : decode cX8_bits 40 = .ok (.istore_n 3, 1) := by decide +kernel
theorem dX8_bits_41 : decode cX8_bits 41 = .ok (.iload 5, 2) := by decide +kernel
theorem dX8_bits_43 : decode cX8_bits 43 = .ok (.istore_n 2, 1) := by decide +kernel
theorem dX8_bits_44 : decode cX8_bits 44 = .ok (.iinc 4 1, 3) := by decide +kernel
theorem dX8_bits_47 : decode cX8_bits 47 = .ok (.iinc 5 1, 3) := by decide +kernel
theorem dX8_bits_50 : decode cX8_bits 50 = .ok (.goto (-40), 3) := by decide +kernel
theorem dX8_bits_53 : decode cX8_bits 53 = .ok (.iload_n 1, 1) := by decide +kernel
theorem dX8_bits_54 : decode cX8_bits 54 = .ok (.ifCond .ne 9, 3) := by decide +kernel
theorem dX8_bits_57 : decode cX8_bits 57 = .ok (.iload_n 2, 1) := by decide +kernel
theorem dX8_bits_58 : decode cX8_bits 58 = .ok (.iconst 1, 1) := by decide +kernel
theorem dX8_bits_59 : decode cX8_bits 59 = .ok (.iadd, 1) := by decide +kernel
theorem dX8_bits_60 : decode cX8_bits 60 = .ok (.goto 14, 3) := by decide +kernel
theorem dX8_bits_63 : decode cX8_bits 63 = .ok (.iload_n 1, 1) := by decide +kernel
theorem dX8_bits_64 : decode cX8_bits 64 = .ok (.iconst 1, 1) := by decide +kernel
theorem dX8_bits_65 : decode cX8_bits 65 = .ok (.if_icmp .ne 8, 3) := by decide +kernel
theorem dX8_bits_68 : decode cX8_bits 68 = .ok (.iload 4, 2) := by decide +kernel
theorem dX8_bits_70 : decode cX8_bits 70 = .ok (.goto 4, 3) := by decide +kernel
theorem dX8_bits_73 : decode cX8_bits 73 = .ok (.iload_n 3, 1) := by decide +kernel
theorem dX8_bits_74 : decode cX8_bits 74 = .ok (.ireturn, 1) := by decide +kernel
theorem dX8_isLong_0 : decode cX8_isLong 0 = .ok (.aload_n 0, 1) := by decide +kernel
theorem dX8_isLong_1 : decode cX8_isLong 1 = .ok (.iconst 0, 1) := by decide +kernel
theorem dX8_isLong_2 : decode cX8_isLong 2 = .ok (.invokestatic 121, 3) := by decide +kernel
theorem dX8_isLong_5 : decode cX8_isLong 5 = .ok (.bipush 80, 2) := by decide +kernel
theorem dX8_isLong_7 : decode cX8_isLong 7 = .ok (.if_icmp .le 7, 3) := by decide +kernel
theorem dX8_isLong_10 : decode cX8_isLong 10 = .ok (.iconst 1, 1) := by decide +kernel
theorem dX8_isLong_11 : decode cX8_isLong 11 = .ok (.goto 4, 3) := by decide +kernel
theorem dX8_isLong_14 : decode cX8_isLong 14 = .ok (.iconst 0, 1) := by decide +kernel
theorem dX8_isLong_15 : decode cX8_isLong 15 = .ok (.ireturn, 1) := by decide +kernel
theorem dX8_norm_0 : decode cX8_norm 0 = .ok (.aload_n 1, 1) := by decide +kernel
theorem dX8_norm_1 : decode cX8_norm 1 = .ok (.aload_n 1, 1) := by decide +kernel
theorem dX8_norm_2 : decode cX8_norm 2 = .ok (.invokestatic 124, 3) := by decide +kernel
theorem dX8_norm_5 : decode cX8_norm 5 = .ok (.iload_n 0, 1) := by decide +kernel
theorem dX8_norm_6 : decode cX8_norm 6 = .ok (.i2l, 1) := by decide +kernel
theorem dX8_norm_7 : decode cX8_norm 7 = .ok (.invokestatic 20, 3) := by decide +kernel
theorem dX8_norm_10 : decode cX8_norm 10 = .ok (.aload_n 2, 1) := by decide +kernel
theorem dX8_norm_11 : decode cX8_norm 11 = .ok (.aload_n 2, 1) := by decide +kernel
theorem dX8_norm_12 : decode cX8_norm 12 = .ok (.invokestatic 124, 3) := by decide +kernel
theorem dX8_norm_15 : decode cX8_norm 15 = .ok (.invokestatic 124, 3) := by decide +kernel
theorem dX8_norm_18 : decode cX8_norm 18 = .ok (.invokestatic 127, 3) := by decide +kernel
theorem dX8_norm_21 : decode cX8_norm 21 = .ok (.areturn, 1) := by decide +kernel
theorem dX8_root_0 : decode cX8_root 0 = .ok (.iconst 0, 1) := by decide +kernel
theorem dX8_root_1 : decode cX8_root 1 = .ok (.istore_n 1, 1) := by decide +kernel
theorem dX8_root_2 : decode cX8_root 2 = .ok (.iload_n 1, 1) := by decide +kernel
theorem dX8_root_3 : decode cX8_root 3 = .ok (.iconst 1, 1) := by decide +kernel
theorem dX8_root_4 : decode cX8_root 4 = .ok (.iadd, 1) := by decide +kernel
theorem dX8_root_5 : decode cX8_root 5 = .ok (.iload_n 1, 1) := by decide +kernel
theorem dX8_root_6 : decode cX8_root 6 = .ok (.iconst 1, 1) := by decide +kernel
theorem dX8_root_7 : decode cX8_root 7 = .ok (.iadd, 1) := by decide +kernel
theorem dX8_root_8 : decode cX8_root 8 = .ok (.imul, 1) := by decide +kernel
theorem dX8_root_9 : decode cX8_root 9 = .ok (.iload_n 0, 1) := by decide +kernel
theorem dX8_root_10 : decode cX8_root 10 = .ok (.if_icmp .gt 9, 3) := by decide +kernel
theorem dX8_root_13 : decode cX8_root 13 = .ok (.iinc 1 1, 3) := by decide +kernel
theorem dX8_root_16 : decode cX8_root 16 = .ok (.goto (-14), 3) := by decide +kernel
theorem dX8_root_19 : decode cX8_root 19 = .ok (.iload_n 1, 1) := by decide +kernel
theorem dX8_root_20 : decode cX8_root 20 = .ok (.ireturn, 1) := by decide +kernel
theorem dX8_isNoBase_0 : decode cX8_isNoBase 0 = .ok (.iload_n 0, 1) := by decide +kernel
theorem dX8_isNoBase_1 : decode cX8_isNoBase 1 = .ok (.iconst 2, 1) := by decide +kernel
theorem dX8_isNoBase_2 : decode cX8_isNoBase 2 = .ok (.bipush 99, 2) := by decide +kernel
theorem dX8_isNoBase_4 : decode cX8_isNoBase 4 = .ok (.invokestatic 49, 3) := by decide +kernel
theorem dX8_isNoBase_7 : decode cX8_isNoBase 7 = .ok (.ifCond .eq 16, 3) := by decide +kernel
theorem dX8_isNoBase_10 : decode cX8_isNoBase 10 = .ok (.iload_n 0, 1) := by decide +kernel
theorem dX8_isNoBase_11 : decode cX8_isNoBase 11 = .ok (.invokestatic 130, 3) := by decide +kernel
theorem dX8_isNoBase_14 : decode cX8_isNoBase 14 = .ok (.iload_n 0, 1) := by decide +kernel
theorem dX8_isNoBase_15 : decode cX8_isNoBase 15 = .ok (.invokestatic 130, 3) := by decide +kernel
theorem dX8_isNoBase_18 : decode cX8_isNoBase 18 = .ok (.imul, 1) := by decide +kernel
theorem dX8_isNoBase_19 : decode cX8_isNoBase 19 = .ok (.iload_n 0, 1) := by decide +kernel
theorem dX8_isNoBase_20 : decode cX8_isNoBase 20 = .ok (.if_icmp .ne 7, 3) := by decide +kernel
theorem dX8_isNoBase_23 : decode cX8_isNoBase 23 = .ok (.iconst 1, 1) := by decide +kernel
theorem dX8_isNoBase_24 : decode cX8_isNoBase 24 = .ok (.goto 4, 3) := by decide +kernel
theorem dX8_isNoBase_27 : decode cX8_isNoBase 27 = .ok (.iconst 0, 1) := by decide +kernel
theorem dX8_isNoBase_28 : decode cX8_isNoBase 28 = .ok (.ireturn, 1) := by decide +kernel
theorem dX8_terms_0 : decode cX8_terms 0 = .ok (.iload_n 0, 1) := by decide +kernel
theorem dX8_terms_1 : decode cX8_terms 1 = .ok (.invokestatic 130, 3) := by decide +kernel
theorem dX8_terms_4 : decode cX8_terms 4 = .ok (.istore_n 2, 1) := by decide +kernel
theorem dX8_terms_5 : decode cX8_terms 5 = .ok (.iconst 3, 1) := by decide +kernel
theorem dX8_terms_6 : decode cX8_terms 6 = .ok (.newarray .int, 2) := by decide +kernel
theorem dX8_terms_8 : decode cX8_terms 8 = .ok (.dup, 1) := by decide +kernel
theorem dX8_terms_9 : decode cX8_terms 9 = .ok (.iconst 0, 1) := by decide +kernel
theorem dX8_terms_10 : decode cX8_terms 10 = .ok (.iconst 0, 1) := by decide +kernel
theorem dX8_terms_11 : decode cX8_terms 11 = .ok (.iastore, 1) := by decide +kernel
theorem dX8_terms_12 : decode cX8_terms 12 = .ok (.dup, 1) := by decide +kernel
theorem dX8_terms_13 : decode cX8_terms 13 = .ok (.iconst 1, 1) := by decide +kernel
theorem dX8_terms_14 : decode cX8_terms 14 = .ok (.iconst 1, 1) := by decide +kernel
theorem dX8_terms_15 : decode cX8_terms 15 = .ok (.iastore, 1) := by decide +kernel
theorem dX8_terms_16 : decode cX8_terms 16 = .ok (.dup, 1) := by decide +kernel
theorem dX8_terms_17 : decode cX8_terms 17 = .ok (.iconst 2, 1) := by decide +kernel
theorem dX8_terms_18 : decode cX8_terms 18 = .ok (.iload_n 2, 1) := by decide +kernel
theorem dX8_terms_19 : decode cX8_terms 19 = .ok (.iastore, 1) := by decide +kernel
theorem dX8_terms_20 : decode cX8_terms 20 = .ok (.astore_n 3, 1) := by decide +kernel
theorem dX8_terms_21 : decode cX8_terms 21 = .ok (.iconst 0, 1) := by decide +kernel
theorem dX8_terms_22 : decode cX8_terms 22 = .ok (.istore 4, 2) := by decide +kernel
theorem dX8_terms_24 : decode cX8_terms 24 = .ok (.iload 4, 2) := by decide +kernel
theorem dX8_terms_26 : decode cX8_terms 26 = .ok (.iload_n 1, 1) := by decide +kernel
theorem dX8_terms_27 : decode cX8_terms 27 = .ok (.if_icmp .ge 51, 3) := by decide +kernel
theorem dX8_terms_30 : decode cX8_terms 30 = .ok (.aload_n 3, 1) := by decide +kernel
theorem dX8_terms_31 : decode cX8_terms 31 = .ok (.iconst 0, 1) := by decide +kernel
theorem dX8_terms_32 : decode cX8_terms 32 = .ok (.aload_n 3, 1) := by decide +kernel
theorem dX8_terms_33 : decode cX8_terms 33 = .ok (.iconst 1, 1) := by decide +kernel
theorem dX8_terms_34 : decode cX8_terms 34 = .ok (.iaload, 1) := by decide +kernel
theorem dX8_terms_35 : decode cX8_terms 35 = .ok (.aload_n 3, 1) := by decide +kernel
theorem dX8_terms_36 : decode cX8_terms 36 = .ok (.iconst 2, 1) := by decide +kernel
theorem dX8_terms_37 : decode cX8_terms 37 = .ok (.iaload, 1) := by decide +kernel
theorem dX8_terms_38 : decode cX8_terms 38 = .ok (.imul, 1) := by decide +kernel
theorem dX8_terms_39 : decode cX8_terms 39 = .ok (.aload_n 3, 1) := by decide +kernel
theorem dX8_terms_40 : decode cX8_terms 40 = .ok (.iconst 0, 1) := by decide +kernel
theorem dX8_terms_41 : decode cX8_terms 41 = .ok (.iaload, 1) := by decide +kernel
theorem dX8_terms_42 : decode cX8_terms 42 = .ok (.isub, 1) := by decide +kernel
theorem dX8_terms_43 : decode cX8_terms 43 = .ok (.iastore, 1) := by decide +kernel
theorem dX8_terms_44 : decode cX8_terms 44 = .ok (.aload_n 3, 1) := by decide +kernel
theorem dX8_terms_45 : decode cX8_terms 45 = .ok (.iconst 1, 1) := by decide +kernel
theorem dX8_terms_46 : decode cX8_terms 46 = .ok (.iload_n 0, 1) := by decide +kernel
theorem dX8_terms_47 : decode cX8_terms 47 = .ok (.aload_n 3, 1) := by decide +kernel
theorem dX8_terms_48 : decode cX8_terms 48 = .ok (.iconst 0, 1) := by decide +kernel
theorem dX8_terms_49 : decode cX8_terms 49 = .ok (.iaload, 1) := by decide +kernel
theorem dX8_terms_50 : decode cX8_terms 50 = .ok (.aload_n 3, 1) := by decide +kernel
theorem dX8_terms_51 : decode cX8_terms 51 = .ok (.iconst 0, 1) := by decide +kernel
theorem dX8_terms_52 : decode cX8_terms 52 = .ok (.iaload, 1) := by decide +kernel
theorem dX8_terms_53 : decode cX8_terms 53 = .ok (.imul, 1) := by decide +kernel
theorem dX8_terms_54 : decode cX8_terms 54 = .ok (.isub, 1) := by decide +kernel
theorem dX8_terms_55 : decode cX8_terms 55 = .ok (.aload_n 3, 1) := by decide +kernel
theorem dX8_terms_56 : decode cX8_terms 56 = .ok (.iconst 1, 1) := by decide +kernel
theorem dX8_terms_57 : decode cX8_terms 57 = .ok (.iaload, 1) := by decide +kernel
theorem dX8_terms_58 : decode cX8_terms 58 = .ok (.idiv, 1) := by decide +kernel
theorem dX8_terms_59 : decode cX8_terms 59 = .ok (.iastore, 1) := by decide +kernel
theorem dX8_terms_60 : decode cX8_terms 60 = .ok (.aload_n 3, 1) := by decide +kernel
theorem dX8_terms_61 : decode cX8_terms 61 = .ok (.iconst 2, 1) := by decide +kernel
theorem dX8_terms_62 : decode cX8_terms 62 = .ok (.iload_n 2, 1) := by decide +kernel
theorem dX8_terms_63 : decode cX8_terms 63 = .ok (.aload_n 3, 1) := by decide +kernel
theorem dX8_terms_64 : decode cX8_terms 64 = .ok (.iconst 0, 1) := by decide +kernel
theorem dX8_terms_65 : decode cX8_terms 65 = .ok (.iaload, 1) := by decide +kernel
theorem dX8_terms_66 : decode cX8_terms 66 = .ok (.iadd, 1) := by decide +kernel
theorem dX8_terms_67 : decode cX8_terms 67 = .ok (.aload_n 3, 1) := by decide +kernel
theorem dX8_terms_68 : decode cX8_terms 68 = .ok (.iconst 1, 1) := by decide +kernel
theorem dX8_terms_69 : decode cX8_terms 69 = .ok (.iaload, 1) := by decide +kernel
theorem dX8_terms_70 : decode cX8_terms 70 = .ok (.idiv, 1) := by decide +kernel
theorem dX8_terms_71 : decode cX8_terms 71 = .ok (.iastore, 1) := by decide +kernel
theorem dX8_terms_72 : decode cX8_terms 72 = .ok (.iinc 4 1, 3) := by decide +kernel
theorem dX8_terms_75 : decode cX8_terms 75 = .ok (.goto (-51), 3) := by decide +kernel
theorem dX8_terms_78 : decode cX8_terms 78 = .ok (.aload_n 3, 1) := by decide +kernel
theorem dX8_terms_79 : decode cX8_terms 79 = .ok (.areturn, 1) := by decide +kernel
theorem dX8_walked_0 : decode cX8_walked 0 = .ok (.iload_n 0, 1) := by decide +kernel
theorem dX8_walked_1 : decode cX8_walked 1 = .ok (.invokestatic 130, 3) := by decide +kernel
theorem dX8_walked_4 : decode cX8_walked 4 = .ok (.istore_n 2, 1) := by decide +kernel
theorem dX8_walked_5 : decode cX8_walked 5 = .ok (.iconst 0, 1) := by decide +kernel
theorem dX8_walked_6 : decode cX8_walked 6 = .ok (.istore_n 3, 1) := by decide +kernel
theorem dX8_walked_7 : decode cX8_walked 7 = .ok (.iconst 1, 1) := by decide +kernel
theorem dX8_walked_8 : decode cX8_walked 8 = .ok (.istore 4, 2) := by decide +kernel
theorem dX8_walked_10 : decode cX8_walked 10 = .ok (.iload_n 2, 1) := by decide +kernel
theorem dX8_walked_11 : decode cX8_walked 11 = .ok (.istore 5, 2) := by decide +kernel
theorem dX8_walked_13 : decode cX8_walked 13 = .ok (.iconst 4, 1) := by decide +kernel
theorem dX8_walked_14 : decode cX8_walked 14 = .ok (.anewarray 19, 3) := by decide +kernel
theorem dX8_walked_17 : decode cX8_walked 17 = .ok (.dup, 1) := by decide +kernel
theorem dX8_walked_18 : decode cX8_walked 18 = .ok (.iconst 0, 1) := by decide +kernel
theorem dX8_walked_19 : decode cX8_walked 19 = .ok (.iconst 5, 1) := by decide +kernel
theorem dX8_walked_20 : decode cX8_walked 20 = .ok (.newarray .int, 2) := by decide +kernel
theorem dX8_walked_22 : decode cX8_walked 22 = .ok (.dup, 1) := by decide +kernel
theorem dX8_walked_23 : decode cX8_walked 23 = .ok (.iconst 0, 1) := by decide +kernel
theorem dX8_walked_24 : decode cX8_walked 24 = .ok (.iconst 1, 1) := by decide +kernel
theorem dX8_walked_25 : decode cX8_walked 25 = .ok (.iastore, 1) := by decide +kernel
theorem dX8_walked_26 : decode cX8_walked 26 = .ok (.dup, 1) := by decide +kernel
theorem dX8_walked_27 : decode cX8_walked 27 = .ok (.iconst 1, 1) := by decide +kernel
theorem dX8_walked_28 : decode cX8_walked 28 = .ok (.iconst 1, 1) := by decide +kernel
theorem dX8_walked_29 : decode cX8_walked 29 = .ok (.iastore, 1) := by decide +kernel
theorem dX8_walked_30 : decode cX8_walked 30 = .ok (.dup, 1) := by decide +kernel
theorem dX8_walked_31 : decode cX8_walked 31 = .ok (.iconst 2, 1) := by decide +kernel
theorem dX8_walked_32 : decode cX8_walked 32 = .ok (.iconst 0, 1) := by decide +kernel
theorem dX8_walked_33 : decode cX8_walked 33 = .ok (.iastore, 1) := by decide +kernel
theorem dX8_walked_34 : decode cX8_walked 34 = .ok (.dup, 1) := by decide +kernel
theorem dX8_walked_35 : decode cX8_walked 35 = .ok (.iconst 3, 1) := by decide +kernel
theorem dX8_walked_36 : decode cX8_walked 36 = .ok (.iconst 0, 1) := by decide +kernel
theorem dX8_walked_37 : decode cX8_walked 37 = .ok (.iastore, 1) := by decide +kernel
theorem dX8_walked_38 : decode cX8_walked 38 = .ok (.dup, 1) := by decide +kernel
theorem dX8_walked_39 : decode cX8_walked 39 = .ok (.iconst 4, 1) := by decide +kernel
theorem dX8_walked_40 : decode cX8_walked 40 = .ok (.iconst 0, 1) := by decide +kernel
theorem dX8_walked_41 : decode cX8_walked 41 = .ok (.iastore, 1) := by decide +kernel
theorem dX8_walked_42 : decode cX8_walked 42 = .ok (.aastore, 1) := by decide +kernel
theorem dX8_walked_43 : decode cX8_walked 43 = .ok (.dup, 1) := by decide +kernel
theorem dX8_walked_44 : decode cX8_walked 44 = .ok (.iconst 1, 1) := by decide +kernel
theorem dX8_walked_45 : decode cX8_walked 45 = .ok (.iconst 5, 1) := by decide +kernel
theorem dX8_walked_46 : decode cX8_walked 46 = .ok (.newarray .int, 2) := by decide +kernel
theorem dX8_walked_48 : decode cX8_walked 48 = .ok (.dup, 1) := by decide +kernel
theorem dX8_walked_49 : decode cX8_walked 49 = .ok (.iconst 0, 1) := by decide +kernel
theorem dX8_walked_50 : decode cX8_walked 50 = .ok (.iconst 1, 1) := by decide +kernel
theorem dX8_walked_51 : decode cX8_walked 51 = .ok (.iastore, 1) := by decide +kernel
theorem dX8_walked_52 : decode cX8_walked 52 = .ok (.dup, 1) := by decide +kernel
theorem dX8_walked_53 : decode cX8_walked 53 = .ok (.iconst 1, 1) := by decide +kernel
theorem dX8_walked_54 : decode cX8_walked 54 = .ok (.iload_n 2, 1) := by decide +kernel
theorem dX8_walked_55 : decode cX8_walked 55 = .ok (.iastore, 1) := by decide +kernel
theorem dX8_walked_56 : decode cX8_walked 56 = .ok (.dup, 1) := by decide +kernel
theorem dX8_walked_57 : decode cX8_walked 57 = .ok (.iconst 2, 1) := by decide +kernel
theorem dX8_walked_58 : decode cX8_walked 58 = .ok (.iconst 0, 1) := by decide +kernel
theorem dX8_walked_59 : decode cX8_walked 59 = .ok (.iastore, 1) := by decide +kernel
theorem dX8_walked_60 : decode cX8_walked 60 = .ok (.dup, 1) := by decide +kernel
theorem dX8_walked_61 : decode cX8_walked 61 = .ok (.iconst 3, 1) := by decide +kernel
theorem dX8_walked_62 : decode cX8_walked 62 = .ok (.iconst 0, 1) := by decide +kernel
theorem dX8_walked_63 : decode cX8_walked 63 = .ok (.iastore, 1) := by decide +kernel
theorem dX8_walked_64 : decode cX8_walked 64 = .ok (.dup, 1) := by decide +kernel
theorem dX8_walked_65 : decode cX8_walked 65 = .ok (.iconst 4, 1) := by decide +kernel
theorem dX8_walked_66 : decode cX8_walked 66 = .ok (.iconst 0, 1) := by decide +kernel
theorem dX8_walked_67 : decode cX8_walked 67 = .ok (.iastore, 1) := by decide +kernel
theorem dX8_walked_68 : decode cX8_walked 68 = .ok (.aastore, 1) := by decide +kernel
theorem dX8_walked_69 : decode cX8_walked 69 = .ok (.dup, 1) := by decide +kernel
theorem dX8_walked_70 : decode cX8_walked 70 = .ok (.iconst 2, 1) := by decide +kernel
theorem dX8_walked_71 : decode cX8_walked 71 = .ok (.iconst 5, 1) := by decide +kernel
theorem dX8_walked_72 : decode cX8_walked 72 = .ok (.newarray .int, 2) := by decide +kernel
theorem dX8_walked_74 : decode cX8_walked 74 = .ok (.dup, 1) := by decide +kernel
theorem dX8_walked_75 : decode cX8_walked 75 = .ok (.iconst 0, 1) := by decide +kernel
theorem dX8_walked_76 : decode cX8_walked 76 = .ok (.iconst 1, 1) := by decide +kernel
theorem dX8_walked_77 : decode cX8_walked 77 = .ok (.iastore, 1) := by decide +kernel
theorem dX8_walked_78 : decode cX8_walked 78 = .ok (.dup, 1) := by decide +kernel
theorem dX8_walked_79 : decode cX8_walked 79 = .ok (.iconst 1, 1) := by decide +kernel
theorem dX8_walked_80 : decode cX8_walked 80 = .ok (.iconst 0, 1) := by decide +kernel
theorem dX8_walked_81 : decode cX8_walked 81 = .ok (.iastore, 1) := by decide +kernel
theorem dX8_walked_82 : decode cX8_walked 82 = .ok (.dup, 1) := by decide +kernel
theorem dX8_walked_83 : decode cX8_walked 83 = .ok (.iconst 2, 1) := by decide +kernel
theorem dX8_walked_84 : decode cX8_walked 84 = .ok (.iconst 0, 1) := by decide +kernel
theorem dX8_walked_85 : decode cX8_walked 85 = .ok (.iastore, 1) := by decide +kernel
theorem dX8_walked_86 : decode cX8_walked 86 = .ok (.dup, 1) := by decide +kernel
theorem dX8_walked_87 : decode cX8_walked 87 = .ok (.iconst 3, 1) := by decide +kernel
theorem dX8_walked_88 : decode cX8_walked 88 = .ok (.iconst 0, 1) := by decide +kernel
theorem dX8_walked_89 : decode cX8_walked 89 = .ok (.iastore, 1) := by decide +kernel
theorem dX8_walked_90 : decode cX8_walked 90 = .ok (.dup, 1) := by decide +kernel
theorem dX8_walked_91 : decode cX8_walked 91 = .ok (.iconst 4, 1) := by decide +kernel
theorem dX8_walked_92 : decode cX8_walked 92 = .ok (.iconst 0, 1) := by decide +kernel
theorem dX8_walked_93 : decode cX8_walked 93 = .ok (.iastore, 1) := by decide +kernel
theorem dX8_walked_94 : decode cX8_walked 94 = .ok (.aastore, 1) := by decide +kernel
theorem dX8_walked_95 : decode cX8_walked 95 = .ok (.dup, 1) := by decide +kernel
theorem dX8_walked_96 : decode cX8_walked 96 = .ok (.iconst 3, 1) := by decide +kernel
theorem dX8_walked_97 : decode cX8_walked 97 = .ok (.iconst 5, 1) := by decide +kernel
theorem dX8_walked_98 : decode cX8_walked 98 = .ok (.newarray .int, 2) := by decide +kernel
theorem dX8_walked_100 : decode cX8_walked 100 = .ok (.dup, 1) := by decide +kernel
theorem dX8_walked_101 : decode cX8_walked 101 = .ok (.iconst 0, 1) := by decide +kernel
theorem dX8_walked_102 : decode cX8_walked 102 = .ok (.iconst 1, 1) := by decide +kernel
theorem dX8_walked_103 : decode cX8_walked 103 = .ok (.iastore, 1) := by decide +kernel
theorem dX8_walked_104 : decode cX8_walked 104 = .ok (.dup, 1) := by decide +kernel
theorem dX8_walked_105 : decode cX8_walked 105 = .ok (.iconst 1, 1) := by decide +kernel
theorem dX8_walked_106 : decode cX8_walked 106 = .ok (.iconst 1, 1) := by decide +kernel
theorem dX8_walked_107 : decode cX8_walked 107 = .ok (.iastore, 1) := by decide +kernel
theorem dX8_walked_108 : decode cX8_walked 108 = .ok (.dup, 1) := by decide +kernel
theorem dX8_walked_109 : decode cX8_walked 109 = .ok (.iconst 2, 1) := by decide +kernel
theorem dX8_walked_110 : decode cX8_walked 110 = .ok (.iconst 0, 1) := by decide +kernel
theorem dX8_walked_111 : decode cX8_walked 111 = .ok (.iastore, 1) := by decide +kernel
theorem dX8_walked_112 : decode cX8_walked 112 = .ok (.dup, 1) := by decide +kernel
theorem dX8_walked_113 : decode cX8_walked 113 = .ok (.iconst 3, 1) := by decide +kernel
theorem dX8_walked_114 : decode cX8_walked 114 = .ok (.iconst 0, 1) := by decide +kernel
theorem dX8_walked_115 : decode cX8_walked 115 = .ok (.iastore, 1) := by decide +kernel
theorem dX8_walked_116 : decode cX8_walked 116 = .ok (.dup, 1) := by decide +kernel
theorem dX8_walked_117 : decode cX8_walked 117 = .ok (.iconst 4, 1) := by decide +kernel
theorem dX8_walked_118 : decode cX8_walked 118 = .ok (.iconst 0, 1) := by decide +kernel
theorem dX8_walked_119 : decode cX8_walked 119 = .ok (.iastore, 1) := by decide +kernel
theorem dX8_walked_120 : decode cX8_walked 120 = .ok (.aastore, 1) := by decide +kernel
theorem dX8_walked_121 : decode cX8_walked 121 = .ok (.astore 6, 2) := by decide +kernel
theorem dX8_walked_123 : decode cX8_walked 123 = .ok (.iconst 0, 1) := by decide +kernel
theorem dX8_walked_124 : decode cX8_walked 124 = .ok (.istore 7, 2) := by decide +kernel
theorem dX8_walked_126 : decode cX8_walked 126 = .ok (.iload 7, 2) := by decide +kernel
theorem dX8_walked_128 : decode cX8_walked 128 = .ok (.iload_n 1, 1) := by decide +kernel
theorem dX8_walked_129 : decode cX8_walked 129 = .ok (.if_icmp .ge 142, 3) := by decide +kernel
theorem dX8_walked_132 : decode cX8_walked 132 = .ok (.iload 4, 2) := by decide +kernel
theorem dX8_walked_134 : decode cX8_walked 134 = .ok (.iload 5, 2) := by decide +kernel
theorem dX8_walked_136 : decode cX8_walked 136 = .ok (.imul, 1) := by decide +kernel
theorem dX8_walked_137 : decode cX8_walked 137 = .ok (.iload_n 3, 1) := by decide +kernel
theorem dX8_walked_138 : decode cX8_walked 138 = .ok (.isub, 1) := by decide +kernel
theorem dX8_walked_139 : decode cX8_walked 139 = .ok (.istore_n 3, 1) := by decide +kernel
theorem dX8_walked_140 : decode cX8_walked 140 = .ok (.iload_n 0, 1) := by decide +kernel
theorem dX8_walked_141 : decode cX8_walked 141 = .ok (.iload_n 3, 1) := by decide +kernel
theorem dX8_walked_142 : decode cX8_walked 142 = .ok (.iload_n 3, 1) := by decide +kernel
theorem dX8_walked_143 : decode cX8_walked 143 = .ok (.imul, 1) := by decide +kernel
theorem dX8_walked_144 : decode cX8_walked 144 = .ok (.isub, 1) := by decide +kernel
theorem dX8_walked_145 : decode cX8_walked 145 = .ok (.iload 4, 2) := by decide +kernel
theorem dX8_walked_147 : decode cX8_walked 147 = .ok (.idiv, 1) := by decide +kernel
theorem dX8_walked_148 : decode cX8_walked 148 = .ok (.istore 4, 2) := by decide +kernel
theorem dX8_walked_150 : decode cX8_walked 150 = .ok (.iload_n 2, 1) := by decide +kernel
theorem dX8_walked_151 : decode cX8_walked 151 = .ok (.iload_n 3, 1) := by decide +kernel
theorem dX8_walked_152 : decode cX8_walked 152 = .ok (.iadd, 1) := by decide +kernel
theorem dX8_walked_153 : decode cX8_walked 153 = .ok (.iload 4, 2) := by decide +kernel
theorem dX8_walked_155 : decode cX8_walked 155 = .ok (.idiv, 1) := by decide +kernel
theorem dX8_walked_156 : decode cX8_walked 156 = .ok (.istore 5, 2) := by decide +kernel
theorem dX8_walked_158 : decode cX8_walked 158 = .ok (.iconst 0, 1) := by decide +kernel
theorem dX8_walked_159 : decode cX8_walked 159 = .ok (.istore 8, 2) := by decide +kernel
theorem dX8_walked_161 : decode cX8_walked 161 = .ok (.iload 8, 2) := by decide +kernel
theorem dX8_walked_163 : decode cX8_walked 163 = .ok (.iconst 4, 1) := by decide +kernel
theorem dX8_walked_164 : decode cX8_walked 164 = .ok (.if_icmp .ge 101, 3) := by decide +kernel
theorem dX8_walked_167 : decode cX8_walked 167 = .ok (.aload 6, 2) := by decide +kernel
theorem dX8_walked_169 : decode cX8_walked 169 = .ok (.iload 8, 2) := by decide +kernel
theorem dX8_walked_171 : decode cX8_walked 171 = .ok (.aaload, 1) := by decide +kernel
theorem dX8_walked_172 : decode cX8_walked 172 = .ok (.astore 9, 2) := by decide +kernel
theorem dX8_walked_174 : decode cX8_walked 174 = .ok (.lconst 0, 1) := by decide +kernel
theorem dX8_walked_175 : decode cX8_walked 175 = .ok (.lstore 10, 2) := by decide +kernel
theorem dX8_walked_177 : decode cX8_walked 177 = .ok (.iconst 1, 1) := by decide +kernel
theorem dX8_walked_178 : decode cX8_walked 178 = .ok (.istore 12, 2) := by decide +kernel
theorem dX8_walked_180 : decode cX8_walked 180 = .ok (.iload 12, 2) := by decide +kernel
theorem dX8_walked_182 : decode cX8_walked 182 = .ok (.iconst 5, 1) := by decide +kernel
theorem dX8_walked_183 : decode cX8_walked 183 = .ok (.if_icmp .ge 55, 3) := by decide +kernel
theorem dX8_walked_186 : decode cX8_walked 186 = .ok (.lload 10, 2) := by decide +kernel
theorem dX8_walked_188 : decode cX8_walked 188 = .ok (.iload 5, 2) := by decide +kernel
theorem dX8_walked_190 : decode cX8_walked 190 = .ok (.i2l, 1) := by decide +kernel
theorem dX8_walked_191 : decode cX8_walked 191 = .ok (.aload 6, 2) := by decide +kernel
theorem dX8_walked_193 : decode cX8_walked 193 = .ok (.iload 8, 2) := by decide +kernel
theorem dX8_walked_195 : decode cX8_walked 195 = .ok (.iconst 1, 1) := by decide +kernel
theorem dX8_walked_196 : decode cX8_walked 196 = .ok (.iadd, 1) := by decide +kernel
theorem dX8_walked_197 : decode cX8_walked 197 = .ok (.aaload, 1) := by decide +kernel
theorem dX8_walked_198 : decode cX8_walked 198 = .ok (.iload 12, 2) := by decide +kernel
theorem dX8_walked_200 : decode cX8_walked 200 = .ok (.iaload, 1) := by decide +kernel
theorem dX8_walked_201 : decode cX8_walked 201 = .ok (.i2l, 1) := by decide +kernel
theorem dX8_walked_202 : decode cX8_walked 202 = .ok (.lmul, 1) := by decide +kernel
theorem dX8_walked_203 : decode cX8_walked 203 = .ok (.aload 9, 2) := by decide +kernel
theorem dX8_walked_205 : decode cX8_walked 205 = .ok (.iload 12, 2) := by decide +kernel
theorem dX8_walked_207 : decode cX8_walked 207 = .ok (.iaload, 1) := by decide +kernel
theorem dX8_walked_208 : decode cX8_walked 208 = .ok (.i2l, 1) := by decide +kernel
theorem dX8_walked_209 : decode cX8_walked 209 = .ok (.ladd, 1) := by decide +kernel
theorem dX8_walked_210 : decode cX8_walked 210 = .ok (.ladd, 1) := by decide +kernel
theorem dX8_walked_211 : decode cX8_walked 211 = .ok (.lstore 10, 2) := by decide +kernel
theorem dX8_walked_213 : decode cX8_walked 213 = .ok (.aload 9, 2) := by decide +kernel
theorem dX8_walked_215 : decode cX8_walked 215 = .ok (.iload 12, 2) := by decide +kernel
theorem dX8_walked_217 : decode cX8_walked 217 = .ok (.lload 10, 2) := by decide +kernel
theorem dX8_walked_219 : decode cX8_walked 219 = .ok (.ldc2_w 53, 3) := by decide +kernel
theorem dX8_walked_222 : decode cX8_walked 222 = .ok (.land, 1) := by decide +kernel
theorem dX8_walked_223 : decode cX8_walked 223 = .ok (.l2i, 1) := by decide +kernel
theorem dX8_walked_224 : decode cX8_walked 224 = .ok (.iastore, 1) := by decide +kernel
theorem dX8_walked_225 : decode cX8_walked 225 = .ok (.lload 10, 2) := by decide +kernel
theorem dX8_walked_227 : decode cX8_walked 227 = .ok (.bipush 30, 2) := by decide +kernel
theorem dX8_walked_229 : decode cX8_walked 229 = .ok (.lshr, 1) := by decide +kernel
theorem dX8_walked_230 : decode cX8_walked 230 = .ok (.lstore 10, 2) := by decide +kernel
theorem dX8_walked_232 : decode cX8_walked 232 = .ok (.iinc 12 1, 3) := by decide +kernel
theorem dX8_walked_235 : decode cX8_walked 235 = .ok (.goto (-55), 3) := by decide +kernel
theorem dX8_walked_238 : decode cX8_walked 238 = .ok (.aload 6, 2) := by decide +kernel
theorem dX8_walked_240 : decode cX8_walked 240 = .ok (.iload 8, 2) := by decide +kernel
theorem dX8_walked_242 : decode cX8_walked 242 = .ok (.aload 6, 2) := by decide +kernel
theorem dX8_walked_244 : decode cX8_walked 244 = .ok (.iload 8, 2) := by decide +kernel
theorem dX8_walked_246 : decode cX8_walked 246 = .ok (.iconst 1, 1) := by decide +kernel
theorem dX8_walked_247 : decode cX8_walked 247 = .ok (.iadd, 1) := by decide +kernel
theorem dX8_walked_248 : decode cX8_walked 248 = .ok (.aaload, 1) := by decide +kernel
theorem dX8_walked_249 : decode cX8_walked 249 = .ok (.aastore, 1) := by decide +kernel
theorem dX8_walked_250 : decode cX8_walked 250 = .ok (.aload 6, 2) := by decide +kernel
theorem dX8_walked_252 : decode cX8_walked 252 = .ok (.iload 8, 2) := by decide +kernel
theorem dX8_walked_254 : decode cX8_walked 254 = .ok (.iconst 1, 1) := by decide +kernel
theorem dX8_walked_255 : decode cX8_walked 255 = .ok (.iadd, 1) := by decide +kernel
theorem dX8_walked_256 : decode cX8_walked 256 = .ok (.aload 9, 2) := by decide +kernel
theorem dX8_walked_258 : decode cX8_walked 258 = .ok (.aastore, 1) := by decide +kernel
theorem dX8_walked_259 : decode cX8_walked 259 = .ok (.iinc 8 2, 3) := by decide +kernel
theorem dX8_walked_262 : decode cX8_walked 262 = .ok (.goto (-101), 3) := by decide +kernel
theorem dX8_walked_265 : decode cX8_walked 265 = .ok (.iinc 7 1, 3) := by decide +kernel
theorem dX8_walked_268 : decode cX8_walked 268 = .ok (.goto (-142), 3) := by decide +kernel
theorem dX8_walked_271 : decode cX8_walked 271 = .ok (.iconst 4, 1) := by decide +kernel
theorem dX8_walked_272 : decode cX8_walked 272 = .ok (.anewarray 19, 3) := by decide +kernel
theorem dX8_walked_275 : decode cX8_walked 275 = .ok (.dup, 1) := by decide +kernel
theorem dX8_walked_276 : decode cX8_walked 276 = .ok (.iconst 0, 1) := by decide +kernel
theorem dX8_walked_277 : decode cX8_walked 277 = .ok (.iconst 1, 1) := by decide +kernel
theorem dX8_walked_278 : decode cX8_walked 278 = .ok (.aload 6, 2) := by decide +kernel
theorem dX8_walked_280 : decode cX8_walked 280 = .ok (.iconst 1, 1) := by decide +kernel
theorem dX8_walked_281 : decode cX8_walked 281 = .ok (.aaload, 1) := by decide +kernel
theorem dX8_walked_282 : decode cX8_walked 282 = .ok (.invokestatic 55, 3) := by decide +kernel
theorem dX8_walked_285 : decode cX8_walked 285 = .ok (.aastore, 1) := by decide +kernel
theorem dX8_walked_286 : decode cX8_walked 286 = .ok (.dup, 1) := by decide +kernel
theorem dX8_walked_287 : decode cX8_walked 287 = .ok (.iconst 1, 1) := by decide +kernel
theorem dX8_walked_288 : decode cX8_walked 288 = .ok (.iconst 1, 1) := by decide +kernel
theorem dX8_walked_289 : decode cX8_walked 289 = .ok (.aload 6, 2) := by decide +kernel
theorem dX8_walked_291 : decode cX8_walked 291 = .ok (.iconst 3, 1) := by decide +kernel
theorem dX8_walked_292 : decode cX8_walked 292 = .ok (.aaload, 1) := by decide +kernel
theorem dX8_walked_293 : decode cX8_walked 293 = .ok (.invokestatic 55, 3) := by decide +kernel
theorem dX8_walked_296 : decode cX8_walked 296 = .ok (.aastore, 1) := by decide +kernel
theorem dX8_walked_297 : decode cX8_walked 297 = .ok (.dup, 1) := by decide +kernel
theorem dX8_walked_298 : decode cX8_walked 298 = .ok (.iconst 2, 1) := by decide +kernel
theorem dX8_walked_299 : decode cX8_walked 299 = .ok (.iconst 1, 1) := by decide +kernel
theorem dX8_walked_300 : decode cX8_walked 300 = .ok (.aload 6, 2) := by decide +kernel
theorem dX8_walked_302 : decode cX8_walked 302 = .ok (.iconst 0, 1) := by decide +kernel
theorem dX8_walked_303 : decode cX8_walked 303 = .ok (.aaload, 1) := by decide +kernel
theorem dX8_walked_304 : decode cX8_walked 304 = .ok (.invokestatic 55, 3) := by decide +kernel
theorem dX8_walked_307 : decode cX8_walked 307 = .ok (.aastore, 1) := by decide +kernel
theorem dX8_walked_308 : decode cX8_walked 308 = .ok (.dup, 1) := by decide +kernel
theorem dX8_walked_309 : decode cX8_walked 309 = .ok (.iconst 3, 1) := by decide +kernel
theorem dX8_walked_310 : decode cX8_walked 310 = .ok (.iconst 1, 1) := by decide +kernel
theorem dX8_walked_311 : decode cX8_walked 311 = .ok (.aload 6, 2) := by decide +kernel
theorem dX8_walked_313 : decode cX8_walked 313 = .ok (.iconst 2, 1) := by decide +kernel
theorem dX8_walked_314 : decode cX8_walked 314 = .ok (.aaload, 1) := by decide +kernel
theorem dX8_walked_315 : decode cX8_walked 315 = .ok (.invokestatic 55, 3) := by decide +kernel
theorem dX8_walked_318 : decode cX8_walked 318 = .ok (.aastore, 1) := by decide +kernel
theorem dX8_walked_319 : decode cX8_walked 319 = .ok (.areturn, 1) := by decide +kernel
theorem dX8_at_0 : decode cX8_at 0 = .ok (.aload_n 0, 1) := by decide +kernel
theorem dX8_at_1 : decode cX8_at 1 = .ok (.getfield 9, 3) := by decide +kernel
theorem dX8_at_4 : decode cX8_at 4 = .ok (.iload_n 1, 1) := by decide +kernel
theorem dX8_at_5 : decode cX8_at 5 = .ok (.iaload, 1) := by decide +kernel
theorem dX8_at_6 : decode cX8_at 6 = .ok (.aload_n 0, 1) := by decide +kernel
theorem dX8_at_7 : decode cX8_at 7 = .ok (.getfield 13, 3) := by decide +kernel
theorem dX8_at_10 : decode cX8_at 10 = .ok (.iload_n 1, 1) := by decide +kernel
theorem dX8_at_11 : decode cX8_at 11 = .ok (.iaload, 1) := by decide +kernel
theorem dX8_at_12 : decode cX8_at 12 = .ok (.invokestatic 134, 3) := by decide +kernel
theorem dX8_at_15 : decode cX8_at 15 = .ok (.areturn, 1) := by decide +kernel
theorem dX8_periodOf_0 : decode cX8_periodOf 0 = .ok (.iconst 1, 1) := by decide +kernel
theorem dX8_periodOf_1 : decode cX8_periodOf 1 = .ok (.istore_n 1, 1) := by decide +kernel
theorem dX8_periodOf_2 : decode cX8_periodOf 2 = .ok (.iload_n 0, 1) := by decide +kernel
theorem dX8_periodOf_3 : decode cX8_periodOf 3 = .ok (.iload_n 1, 1) := by decide +kernel
theorem dX8_periodOf_4 : decode cX8_periodOf 4 = .ok (.invokestatic 138, 3) := by decide +kernel
theorem dX8_periodOf_7 : decode cX8_periodOf 7 = .ok (.iconst 1, 1) := by decide +kernel
theorem dX8_periodOf_8 : decode cX8_periodOf 8 = .ok (.iaload, 1) := by decide +kernel
theorem dX8_periodOf_9 : decode cX8_periodOf 9 = .ok (.iconst 1, 1) := by decide +kernel
theorem dX8_periodOf_10 : decode cX8_periodOf 10 = .ok (.if_icmp .eq 9, 3) := by decide +kernel
theorem dX8_periodOf_13 : decode cX8_periodOf 13 = .ok (.iinc 1 1, 3) := by decide +kernel
theorem dX8_periodOf_16 : decode cX8_periodOf 16 = .ok (.goto (-14), 3) := by decide +kernel
theorem dX8_periodOf_19 : decode cX8_periodOf 19 = .ok (.iload_n 1, 1) := by decide +kernel
theorem dX8_periodOf_20 : decode cX8_periodOf 20 = .ok (.ireturn, 1) := by decide +kernel
theorem dX8_leastOf_0 : decode cX8_leastOf 0 = .ok (.iload_n 0, 1) := by decide +kernel
theorem dX8_leastOf_1 : decode cX8_leastOf 1 = .ok (.invokestatic 142, 3) := by decide +kernel
theorem dX8_leastOf_4 : decode cX8_leastOf 4 = .ok (.istore_n 1, 1) := by decide +kernel
theorem dX8_leastOf_5 : decode cX8_leastOf 5 = .ok (.iload_n 0, 1) := by decide +kernel
theorem dX8_leastOf_6 : decode cX8_leastOf 6 = .ok (.iload_n 1, 1) := by decide +kernel
theorem dX8_leastOf_7 : decode cX8_leastOf 7 = .ok (.iconst 2, 1) := by decide +kernel
theorem dX8_leastOf_8 : decode cX8_leastOf 8 = .ok (.irem, 1) := by decide +kernel
theorem dX8_leastOf_9 : decode cX8_leastOf 9 = .ok (.ifCond .ne 7, 3) := by decide +kernel
theorem dX8_leastOf_12 : decode cX8_leastOf 12 = .ok (.iload_n 1, 1) := by decide +kernel
theorem dX8_leastOf_13 : decode cX8_leastOf 13 = .ok (.goto 6, 3) := by decide +kernel
theorem dX8_leastOf_16 : decode cX8_leastOf 16 = .ok (.iconst 2, 1) := by decide +kernel
theorem dX8_leastOf_17 : decode cX8_leastOf 17 = .ok (.iload_n 1, 1) := by decide +kernel
theorem dX8_leastOf_18 : decode cX8_leastOf 18 = .ok (.imul, 1) := by decide +kernel
theorem dX8_leastOf_19 : decode cX8_leastOf 19 = .ok (.iconst 1, 1) := by decide +kernel
theorem dX8_leastOf_20 : decode cX8_leastOf 20 = .ok (.isub, 1) := by decide +kernel
theorem dX8_leastOf_21 : decode cX8_leastOf 21 = .ok (.invokestatic 134, 3) := by decide +kernel
theorem dX8_leastOf_24 : decode cX8_leastOf 24 = .ok (.areturn, 1) := by decide +kernel
theorem dX8_open_0 : decode cX8_open 0 = .ok (.aload_n 0, 1) := by decide +kernel
theorem dX8_open_1 : decode cX8_open 1 = .ok (.iload_n 1, 1) := by decide +kernel
theorem dX8_open_2 : decode cX8_open 2 = .ok (.invokestatic 145, 3) := by decide +kernel
theorem dX8_open_5 : decode cX8_open 5 = .ok (.iconst 1, 1) := by decide +kernel
theorem dX8_open_6 : decode cX8_open 6 = .ok (.invokevirtual 149, 3) := by decide +kernel
theorem dX8_open_9 : decode cX8_open 9 = .ok (.ifCond .ne 15, 3) := by decide +kernel
theorem dX8_open_12 : decode cX8_open 12 = .ok (.aload_n 0, 1) := by decide +kernel
theorem dX8_open_13 : decode cX8_open 13 = .ok (.iload_n 2, 1) := by decide +kernel
theorem dX8_open_14 : decode cX8_open 14 = .ok (.invokestatic 152, 3) := by decide +kernel
theorem dX8_open_17 : decode cX8_open 17 = .ok (.iconst 2, 1) := by decide +kernel
theorem dX8_open_18 : decode cX8_open 18 = .ok (.invokevirtual 45, 3) := by decide +kernel
theorem dX8_open_21 : decode cX8_open 21 = .ok (.ifCond .eq 5, 3) := by decide +kernel
theorem dX8_open_24 : decode cX8_open 24 = .ok (.iconst 0, 1) := by decide +kernel
theorem dX8_open_25 : decode cX8_open 25 = .ok (.ireturn, 1) := by decide +kernel
theorem dX8_open_26 : decode cX8_open 26 = .ok (.aload_n 0, 1) := by decide +kernel
theorem dX8_open_27 : decode cX8_open 27 = .ok (.getfield 9, 3) := by decide +kernel
theorem dX8_open_30 : decode cX8_open 30 = .ok (.iload_n 1, 1) := by decide +kernel
theorem dX8_open_31 : decode cX8_open 31 = .ok (.iload_n 2, 1) := by decide +kernel
theorem dX8_open_32 : decode cX8_open 32 = .ok (.iastore, 1) := by decide +kernel
theorem dX8_open_33 : decode cX8_open 33 = .ok (.aload_n 0, 1) := by decide +kernel
theorem dX8_open_34 : decode cX8_open 34 = .ok (.getfield 13, 3) := by decide +kernel
theorem dX8_open_37 : decode cX8_open 37 = .ok (.iload_n 1, 1) := by decide +kernel
theorem dX8_open_38 : decode cX8_open 38 = .ok (.iconst 0, 1) := by decide +kernel
theorem dX8_open_39 : decode cX8_open 39 = .ok (.iastore, 1) := by decide +kernel
theorem dX8_open_40 : decode cX8_open 40 = .ok (.aload_n 0, 1) := by decide +kernel
theorem dX8_open_41 : decode cX8_open 41 = .ok (.iconst 0, 1) := by decide +kernel
theorem dX8_open_42 : decode cX8_open 42 = .ok (.iload_n 2, 1) := by decide +kernel
theorem dX8_open_43 : decode cX8_open 43 = .ok (.invokestatic 130, 3) := by decide +kernel
theorem dX8_open_46 : decode cX8_open 46 = .ok (.invokevirtual 155, 3) := by decide +kernel
theorem dX8_open_49 : decode cX8_open 49 = .ok (.ireturn, 1) := by decide +kernel
theorem dX8_forth_0 : decode cX8_forth 0 = .ok (.aload_n 0, 1) := by decide +kernel
theorem dX8_forth_1 : decode cX8_forth 1 = .ok (.iload_n 1, 1) := by decide +kernel
theorem dX8_forth_2 : decode cX8_forth 2 = .ok (.invokestatic 145, 3) := by decide +kernel
theorem dX8_forth_5 : decode cX8_forth 5 = .ok (.iconst 1, 1) := by decide +kernel
theorem dX8_forth_6 : decode cX8_forth 6 = .ok (.invokevirtual 149, 3) := by decide +kernel
theorem dX8_forth_9 : decode cX8_forth 9 = .ok (.ifCond .ne 26, 3) := by decide +kernel
theorem dX8_forth_12 : decode cX8_forth 12 = .ok (.aload_n 0, 1) := by decide +kernel
theorem dX8_forth_13 : decode cX8_forth 13 = .ok (.iload_n 2, 1) := by decide +kernel
theorem dX8_forth_14 : decode cX8_forth 14 = .ok (.iconst 1, 1) := by decide +kernel
theorem dX8_forth_15 : decode cX8_forth 15 = .ok (.bipush 6, 2) := by decide +kernel
theorem dX8_forth_17 : decode cX8_forth 17 = .ok (.invokestatic 49, 3) := by decide +kernel
theorem dX8_forth_20 : decode cX8_forth 20 = .ok (.ifCond .ne 7, 3) := by decide +kernel
theorem dX8_forth_23 : decode cX8_forth 23 = .ok (.iconst 1, 1) := by decide +kernel
theorem dX8_forth_24 : decode cX8_forth 24 = .ok (.goto 4, 3) := by decide +kernel
theorem dX8_forth_27 : decode cX8_forth 27 = .ok (.iconst 0, 1) := by decide +kernel
theorem dX8_forth_28 : decode cX8_forth 28 = .ok (.iconst 2, 1) := by decide +kernel
theorem dX8_forth_29 : decode cX8_forth 29 = .ok (.invokevirtual 45, 3) := by decide +kernel
theorem dX8_forth_32 : decode cX8_forth 32 = .ok (.ifCond .eq 5, 3) := by decide +kernel
theorem dX8_forth_35 : decode cX8_forth 35 = .ok (.iconst 0, 1) := by decide +kernel
theorem dX8_forth_36 : decode cX8_forth 36 = .ok (.ireturn, 1) := by decide +kernel
theorem dX8_forth_37 : decode cX8_forth 37 = .ok (.aload_n 0, 1) := by decide +kernel
theorem dX8_forth_38 : decode cX8_forth 38 = .ok (.getfield 13, 3) := by decide +kernel
theorem dX8_forth_41 : decode cX8_forth 41 = .ok (.iload_n 1, 1) := by decide +kernel
theorem dX8_forth_42 : decode cX8_forth 42 = .ok (.iaload, 1) := by decide +kernel
theorem dX8_forth_43 : decode cX8_forth 43 = .ok (.iload_n 2, 1) := by decide +kernel
theorem dX8_forth_44 : decode cX8_forth 44 = .ok (.iadd, 1) := by decide +kernel
theorem dX8_forth_45 : decode cX8_forth 45 = .ok (.bipush 24, 2) := by decide +kernel
theorem dX8_forth_47 : decode cX8_forth 47 = .ok (.if_icmp .le 8, 3) := by decide +kernel
theorem dX8_forth_50 : decode cX8_forth 50 = .ok (.aload_n 0, 1) := by decide +kernel
theorem dX8_forth_51 : decode cX8_forth 51 = .ok (.invokevirtual 158, 3) := by decide +kernel
theorem dX8_forth_54 : decode cX8_forth 54 = .ok (.ireturn, 1) := by decide +kernel
theorem dX8_forth_55 : decode cX8_forth 55 = .ok (.aload_n 0, 1) := by decide +kernel
theorem dX8_forth_56 : decode cX8_forth 56 = .ok (.getfield 13, 3) := by decide +kernel
theorem dX8_forth_59 : decode cX8_forth 59 = .ok (.iload_n 1, 1) := by decide +kernel
theorem dX8_forth_60 : decode cX8_forth 60 = .ok (.dup2, 1) := by decide +kernel
theorem dX8_forth_61 : decode cX8_forth 61 = .ok (.iaload, 1) := by decide +kernel
theorem dX8_forth_62 : decode cX8_forth 62 = .ok (.iload_n 2, 1) := by decide +kernel
theorem dX8_forth_63 : decode cX8_forth 63 = .ok (.iadd, 1) := by decide +kernel
theorem dX8_forth_64 : decode cX8_forth 64 = .ok (.iastore, 1) := by decide +kernel
theorem dX8_forth_65 : decode cX8_forth 65 = .ok (.aload_n 0, 1) := by decide +kernel
theorem dX8_forth_66 : decode cX8_forth 66 = .ok (.iconst 0, 1) := by decide +kernel
theorem dX8_forth_67 : decode cX8_forth 67 = .ok (.aload_n 0, 1) := by decide +kernel
theorem dX8_forth_68 : decode cX8_forth 68 = .ok (.getfield 13, 3) := by decide +kernel
theorem dX8_forth_71 : decode cX8_forth 71 = .ok (.iload_n 1, 1) := by decide +kernel
theorem dX8_forth_72 : decode cX8_forth 72 = .ok (.iaload, 1) := by decide +kernel
theorem dX8_forth_73 : decode cX8_forth 73 = .ok (.invokevirtual 155, 3) := by decide +kernel
theorem dX8_forth_76 : decode cX8_forth 76 = .ok (.ireturn, 1) := by decide +kernel
theorem dX8_back_0 : decode cX8_back 0 = .ok (.aload_n 0, 1) := by decide +kernel
theorem dX8_back_1 : decode cX8_back 1 = .ok (.iload_n 1, 1) := by decide +kernel
theorem dX8_back_2 : decode cX8_back 2 = .ok (.invokestatic 145, 3) := by decide +kernel
theorem dX8_back_5 : decode cX8_back 5 = .ok (.iconst 1, 1) := by decide +kernel
theorem dX8_back_6 : decode cX8_back 6 = .ok (.invokevirtual 149, 3) := by decide +kernel
theorem dX8_back_9 : decode cX8_back 9 = .ok (.ifCond .eq 5, 3) := by decide +kernel
theorem dX8_back_12 : decode cX8_back 12 = .ok (.iconst 0, 1) := by decide +kernel
theorem dX8_back_13 : decode cX8_back 13 = .ok (.ireturn, 1) := by decide +kernel
theorem dX8_back_14 : decode cX8_back 14 = .ok (.aload_n 0, 1) := by decide +kernel
theorem dX8_back_15 : decode cX8_back 15 = .ok (.getfield 13, 3) := by decide +kernel
theorem dX8_back_18 : decode cX8_back 18 = .ok (.iload_n 1, 1) := by decide +kernel
theorem dX8_back_19 : decode cX8_back 19 = .ok (.iaload, 1) := by decide +kernel
theorem dX8_back_20 : decode cX8_back 20 = .ok (.ifCond .ne 8, 3) := by decide +kernel
theorem dX8_back_23 : decode cX8_back 23 = .ok (.aload_n 0, 1) := by decide +kernel
theorem dX8_back_24 : decode cX8_back 24 = .ok (.invokevirtual 158, 3) := by decide +kernel
theorem dX8_back_27 : decode cX8_back 27 = .ok (.ireturn, 1) := by decide +kernel
theorem dX8_back_28 : decode cX8_back 28 = .ok (.aload_n 0, 1) := by decide +kernel
theorem dX8_back_29 : decode cX8_back 29 = .ok (.getfield 13, 3) := by decide +kernel
theorem dX8_back_32 : decode cX8_back 32 = .ok (.iload_n 1, 1) := by decide +kernel
theorem dX8_back_33 : decode cX8_back 33 = .ok (.dup2, 1) := by decide +kernel
theorem dX8_back_34 : decode cX8_back 34 = .ok (.iaload, 1) := by decide +kernel
theorem dX8_back_35 : decode cX8_back 35 = .ok (.iconst 1, 1) := by decide +kernel
theorem dX8_back_36 : decode cX8_back 36 = .ok (.isub, 1) := by decide +kernel
theorem dX8_back_37 : decode cX8_back 37 = .ok (.iastore, 1) := by decide +kernel
theorem dX8_back_38 : decode cX8_back 38 = .ok (.aload_n 0, 1) := by decide +kernel
theorem dX8_back_39 : decode cX8_back 39 = .ok (.iconst 0, 1) := by decide +kernel
theorem dX8_back_40 : decode cX8_back 40 = .ok (.aload_n 0, 1) := by decide +kernel
theorem dX8_back_41 : decode cX8_back 41 = .ok (.getfield 13, 3) := by decide +kernel
theorem dX8_back_44 : decode cX8_back 44 = .ok (.iload_n 1, 1) := by decide +kernel
theorem dX8_back_45 : decode cX8_back 45 = .ok (.iaload, 1) := by decide +kernel
theorem dX8_back_46 : decode cX8_back 46 = .ok (.invokevirtual 155, 3) := by decide +kernel
theorem dX8_back_49 : decode cX8_back 49 = .ok (.ireturn, 1) := by decide +kernel
theorem dX8_walkCopy_0 : decode cX8_walkCopy 0 = .ok (.aload_n 0, 1) := by decide +kernel
theorem dX8_walkCopy_1 : decode cX8_walkCopy 1 = .ok (.iload_n 1, 1) := by decide +kernel
theorem dX8_walkCopy_2 : decode cX8_walkCopy 2 = .ok (.invokestatic 145, 3) := by decide +kernel
theorem dX8_walkCopy_5 : decode cX8_walkCopy 5 = .ok (.ifCond .ne 10, 3) := by decide +kernel
theorem dX8_walkCopy_8 : decode cX8_walkCopy 8 = .ok (.iload_n 2, 1) := by decide +kernel
theorem dX8_walkCopy_9 : decode cX8_walkCopy 9 = .ok (.invokestatic 145, 3) := by decide +kernel
theorem dX8_walkCopy_12 : decode cX8_walkCopy 12 = .ok (.ifCond .eq 7, 3) := by decide +kernel
theorem dX8_walkCopy_15 : decode cX8_walkCopy 15 = .ok (.iconst 1, 1) := by decide +kernel
theorem dX8_walkCopy_16 : decode cX8_walkCopy 16 = .ok (.goto 4, 3) := by decide +kernel
theorem dX8_walkCopy_19 : decode cX8_walkCopy 19 = .ok (.iconst 0, 1) := by decide +kernel
theorem dX8_walkCopy_20 : decode cX8_walkCopy 20 = .ok (.iconst 1, 1) := by decide +kernel
theorem dX8_walkCopy_21 : decode cX8_walkCopy 21 = .ok (.invokevirtual 149, 3) := by decide +kernel
theorem dX8_walkCopy_24 : decode cX8_walkCopy 24 = .ok (.ifCond .eq 5, 3) := by decide +kernel
theorem dX8_walkCopy_27 : decode cX8_walkCopy 27 = .ok (.iconst 0, 1) := by decide +kernel
theorem dX8_walkCopy_28 : decode cX8_walkCopy 28 = .ok (.ireturn, 1) := by decide +kernel
theorem dX8_walkCopy_29 : decode cX8_walkCopy 29 = .ok (.aload_n 0, 1) := by decide +kernel
theorem dX8_walkCopy_30 : decode cX8_walkCopy 30 = .ok (.getfield 9, 3) := by decide +kernel
theorem dX8_walkCopy_33 : decode cX8_walkCopy 33 = .ok (.iload_n 1, 1) := by decide +kernel
theorem dX8_walkCopy_34 : decode cX8_walkCopy 34 = .ok (.iaload, 1) := by decide +kernel
theorem dX8_walkCopy_35 : decode cX8_walkCopy 35 = .ok (.aload_n 0, 1) := by decide +kernel
theorem dX8_walkCopy_36 : decode cX8_walkCopy 36 = .ok (.getfield 9, 3) := by decide +kernel
theorem dX8_walkCopy_39 : decode cX8_walkCopy 39 = .ok (.iload_n 2, 1) := by decide +kernel
theorem dX8_walkCopy_40 : decode cX8_walkCopy 40 = .ok (.iaload, 1) := by decide +kernel
theorem dX8_walkCopy_41 : decode cX8_walkCopy 41 = .ok (.if_icmp .ne 18, 3) := by decide +kernel
theorem dX8_walkCopy_44 : decode cX8_walkCopy 44 = .ok (.aload_n 0, 1) := by decide +kernel
theorem dX8_walkCopy_45 : decode cX8_walkCopy 45 = .ok (.getfield 13, 3) := by decide +kernel
theorem dX8_walkCopy_48 : decode cX8_walkCopy 48 = .ok (.iload_n 1, 1) := by decide +kernel
theorem dX8_walkCopy_49 : decode cX8_walkCopy 49 = .ok (.iaload, 1) := by decide +kernel
theorem dX8_walkCopy_50 : decode cX8_walkCopy 50 = .ok (.aload_n 0, 1) := by decide +kernel
theorem dX8_walkCopy_51 : decode cX8_walkCopy 51 = .ok (.getfield 13, 3) := by decide +kernel
theorem dX8_walkCopy_54 : decode cX8_walkCopy 54 = .ok (.iload_n 2, 1) := by decide +kernel
theorem dX8_walkCopy_55 : decode cX8_walkCopy 55 = .ok (.iaload, 1) := by decide +kernel
theorem dX8_walkCopy_56 : decode cX8_walkCopy 56 = .ok (.if_icmp .eq 7, 3) := by decide +kernel
theorem dX8_walkCopy_59 : decode cX8_walkCopy 59 = .ok (.iconst 1, 1) := by decide +kernel
theorem dX8_walkCopy_60 : decode cX8_walkCopy 60 = .ok (.goto 4, 3) := by decide +kernel
theorem dX8_walkCopy_63 : decode cX8_walkCopy 63 = .ok (.iconst 0, 1) := by decide +kernel
theorem dX8_walkCopy_64 : decode cX8_walkCopy 64 = .ok (.istore_n 3, 1) := by decide +kernel
theorem dX8_walkCopy_65 : decode cX8_walkCopy 65 = .ok (.aload_n 0, 1) := by decide +kernel
theorem dX8_walkCopy_66 : decode cX8_walkCopy 66 = .ok (.getfield 9, 3) := by decide +kernel
theorem dX8_walkCopy_69 : decode cX8_walkCopy 69 = .ok (.iload_n 2, 1) := by decide +kernel
theorem dX8_walkCopy_70 : decode cX8_walkCopy 70 = .ok (.aload_n 0, 1) := by decide +kernel
theorem dX8_walkCopy_71 : decode cX8_walkCopy 71 = .ok (.getfield 9, 3) := by decide +kernel
theorem dX8_walkCopy_74 : decode cX8_walkCopy 74 = .ok (.iload_n 1, 1) := by decide +kernel
theorem dX8_walkCopy_75 : decode cX8_walkCopy 75 = .ok (.iaload, 1) := by decide +kernel
theorem dX8_walkCopy_76 : decode cX8_walkCopy 76 = .ok (.iastore, 1) := by decide +kernel
theorem dX8_walkCopy_77 : decode cX8_walkCopy 77 = .ok (.aload_n 0, 1) := by decide +kernel
theorem dX8_walkCopy_78 : decode cX8_walkCopy 78 = .ok (.getfield 13, 3) := by decide +kernel
theorem dX8_walkCopy_81 : decode cX8_walkCopy 81 = .ok (.iload_n 2, 1) := by decide +kernel
theorem dX8_walkCopy_82 : decode cX8_walkCopy 82 = .ok (.aload_n 0, 1) := by decide +kernel
theorem dX8_walkCopy_83 : decode cX8_walkCopy 83 = .ok (.getfield 13, 3) := by decide +kernel
theorem dX8_walkCopy_86 : decode cX8_walkCopy 86 = .ok (.iload_n 1, 1) := by decide +kernel
theorem dX8_walkCopy_87 : decode cX8_walkCopy 87 = .ok (.iaload, 1) := by decide +kernel
theorem dX8_walkCopy_88 : decode cX8_walkCopy 88 = .ok (.iastore, 1) := by decide +kernel
theorem dX8_walkCopy_89 : decode cX8_walkCopy 89 = .ok (.aload_n 0, 1) := by decide +kernel
theorem dX8_walkCopy_90 : decode cX8_walkCopy 90 = .ok (.iconst 0, 1) := by decide +kernel
theorem dX8_walkCopy_91 : decode cX8_walkCopy 91 = .ok (.iload_n 3, 1) := by decide +kernel
theorem dX8_walkCopy_92 : decode cX8_walkCopy 92 = .ok (.ifCond .eq 7, 3) := by decide +kernel
theorem dX8_walkCopy_95 : decode cX8_walkCopy 95 = .ok (.iconst 1, 1) := by decide +kernel
theorem dX8_walkCopy_96 : decode cX8_walkCopy 96 = .ok (.goto 4, 3) := by decide +kernel
theorem dX8_walkCopy_99 : decode cX8_walkCopy 99 = .ok (.iconst 0, 1) := by decide +kernel
theorem dX8_walkCopy_100 : decode cX8_walkCopy 100 = .ok (.invokevirtual 155, 3) := by decide +kernel
theorem dX8_walkCopy_103 : decode cX8_walkCopy 103 = .ok (.ireturn, 1) := by decide +kernel
theorem dX8_partOf_0 : decode cX8_partOf 0 = .ok (.iload_n 2, 1) := by decide +kernel
theorem dX8_partOf_1 : decode cX8_partOf 1 = .ok (.iconst 3, 1) := by decide +kernel
theorem dX8_partOf_2 : decode cX8_partOf 2 = .ok (.if_icmp .ge 40, 3) := by decide +kernel
theorem dX8_partOf_5 : decode cX8_partOf 5 = .ok (.iload_n 2, 1) := by decide +kernel
theorem dX8_partOf_6 : decode cX8_partOf 6 = .ok (.ifCond .ne 12, 3) := by decide +kernel
theorem dX8_partOf_9 : decode cX8_partOf 9 = .ok (.aload_n 0, 1) := by decide +kernel
theorem dX8_partOf_10 : decode cX8_partOf 10 = .ok (.getfield 9, 3) := by decide +kernel
theorem dX8_partOf_13 : decode cX8_partOf 13 = .ok (.iload_n 1, 1) := by decide +kernel
theorem dX8_partOf_14 : decode cX8_partOf 14 = .ok (.iaload, 1) := by decide +kernel
theorem dX8_partOf_15 : decode cX8_partOf 15 = .ok (.goto 26, 3) := by decide +kernel
theorem dX8_partOf_18 : decode cX8_partOf 18 = .ok (.iload_n 2, 1) := by decide +kernel
theorem dX8_partOf_19 : decode cX8_partOf 19 = .ok (.iconst 1, 1) := by decide +kernel
theorem dX8_partOf_20 : decode cX8_partOf 20 = .ok (.if_icmp .ne 12, 3) := by decide +kernel
theorem dX8_partOf_23 : decode cX8_partOf 23 = .ok (.aload_n 0, 1) := by decide +kernel
theorem dX8_partOf_24 : decode cX8_partOf 24 = .ok (.getfield 13, 3) := by decide +kernel
theorem dX8_partOf_27 : decode cX8_partOf 27 = .ok (.iload_n 1, 1) := by decide +kernel
theorem dX8_partOf_28 : decode cX8_partOf 28 = .ok (.iaload, 1) := by decide +kernel
theorem dX8_partOf_29 : decode cX8_partOf 29 = .ok (.goto 12, 3) := by decide +kernel
theorem dX8_partOf_32 : decode cX8_partOf 32 = .ok (.aload_n 0, 1) := by decide +kernel
theorem dX8_partOf_33 : decode cX8_partOf 33 = .ok (.getfield 9, 3) := by decide +kernel
theorem dX8_partOf_36 : decode cX8_partOf 36 = .ok (.iload_n 1, 1) := by decide +kernel
theorem dX8_partOf_37 : decode cX8_partOf 37 = .ok (.iaload, 1) := by decide +kernel
theorem dX8_partOf_38 : decode cX8_partOf 38 = .ok (.invokestatic 130, 3) := by decide +kernel
theorem dX8_partOf_41 : decode cX8_partOf 41 = .ok (.ireturn, 1) := by decide +kernel
theorem dX8_partOf_42 : decode cX8_partOf 42 = .ok (.aload_n 0, 1) := by decide +kernel
theorem dX8_partOf_43 : decode cX8_partOf 43 = .ok (.getfield 9, 3) := by decide +kernel
theorem dX8_partOf_46 : decode cX8_partOf 46 = .ok (.iload_n 1, 1) := by decide +kernel
theorem dX8_partOf_47 : decode cX8_partOf 47 = .ok (.iaload, 1) := by decide +kernel
theorem dX8_partOf_48 : decode cX8_partOf 48 = .ok (.aload_n 0, 1) := by decide +kernel
theorem dX8_partOf_49 : decode cX8_partOf 49 = .ok (.getfield 13, 3) := by decide +kernel
theorem dX8_partOf_52 : decode cX8_partOf 52 = .ok (.iload_n 1, 1) := by decide +kernel
theorem dX8_partOf_53 : decode cX8_partOf 53 = .ok (.iaload, 1) := by decide +kernel
theorem dX8_partOf_54 : decode cX8_partOf 54 = .ok (.invokestatic 138, 3) := by decide +kernel
theorem dX8_partOf_57 : decode cX8_partOf 57 = .ok (.iload_n 2, 1) := by decide +kernel
theorem dX8_partOf_58 : decode cX8_partOf 58 = .ok (.iconst 3, 1) := by decide +kernel
theorem dX8_partOf_59 : decode cX8_partOf 59 = .ok (.isub, 1) := by decide +kernel
theorem dX8_partOf_60 : decode cX8_partOf 60 = .ok (.iaload, 1) := by decide +kernel
theorem dX8_partOf_61 : decode cX8_partOf 61 = .ok (.ireturn, 1) := by decide +kernel
theorem dX8_part_0 : decode cX8_part 0 = .ok (.aload_n 0, 1) := by decide +kernel
theorem dX8_part_1 : decode cX8_part 1 = .ok (.iload_n 1, 1) := by decide +kernel
theorem dX8_part_2 : decode cX8_part 2 = .ok (.invokestatic 145, 3) := by decide +kernel
theorem dX8_part_5 : decode cX8_part 5 = .ok (.iconst 1, 1) := by decide +kernel
theorem dX8_part_6 : decode cX8_part 6 = .ok (.invokevirtual 149, 3) := by decide +kernel
theorem dX8_part_9 : decode cX8_part 9 = .ok (.ifCond .ne 25, 3) := by decide +kernel
theorem dX8_part_12 : decode cX8_part 12 = .ok (.aload_n 0, 1) := by decide +kernel
theorem dX8_part_13 : decode cX8_part 13 = .ok (.iload_n 2, 1) := by decide +kernel
theorem dX8_part_14 : decode cX8_part 14 = .ok (.iconst 0, 1) := by decide +kernel
theorem dX8_part_15 : decode cX8_part 15 = .ok (.iconst 5, 1) := by decide +kernel
theorem dX8_part_16 : decode cX8_part 16 = .ok (.invokestatic 49, 3) := by decide +kernel
theorem dX8_part_19 : decode cX8_part 19 = .ok (.ifCond .ne 7, 3) := by decide +kernel
theorem dX8_part_22 : decode cX8_part 22 = .ok (.iconst 1, 1) := by decide +kernel
theorem dX8_part_23 : decode cX8_part 23 = .ok (.goto 4, 3) := by decide +kernel
theorem dX8_part_26 : decode cX8_part 26 = .ok (.iconst 0, 1) := by decide +kernel
theorem dX8_part_27 : decode cX8_part 27 = .ok (.iconst 2, 1) := by decide +kernel
theorem dX8_part_28 : decode cX8_part 28 = .ok (.invokevirtual 45, 3) := by decide +kernel
theorem dX8_part_31 : decode cX8_part 31 = .ok (.ifCond .eq 7, 3) := by decide +kernel
theorem dX8_part_34 : decode cX8_part 34 = .ok (.iconst 0, 1) := by decide +kernel
theorem dX8_part_35 : decode cX8_part 35 = .ok (.goto 9, 3) := by decide +kernel
theorem dX8_part_38 : decode cX8_part 38 = .ok (.aload_n 0, 1) := by decide +kernel
theorem dX8_part_39 : decode cX8_part 39 = .ok (.iload_n 1, 1) := by decide +kernel
theorem dX8_part_40 : decode cX8_part 40 = .ok (.iload_n 2, 1) := by decide +kernel
theorem dX8_part_41 : decode cX8_part 41 = .ok (.invokevirtual 162, 3) := by decide +kernel
theorem dX8_part_44 : decode cX8_part 44 = .ok (.ireturn, 1) := by decide +kernel
theorem dX8_walkText_0 : decode cX8_walkText 0 = .ok (.aload_n 0, 1) := by decide +kernel
theorem dX8_walkText_1 : decode cX8_walkText 1 = .ok (.iload_n 1, 1) := by decide +kernel
theorem dX8_walkText_2 : decode cX8_walkText 2 = .ok (.invokestatic 145, 3) := by decide +kernel
theorem dX8_walkText_5 : decode cX8_walkText 5 = .ok (.iconst 1, 1) := by decide +kernel
theorem dX8_walkText_6 : decode cX8_walkText 6 = .ok (.invokevirtual 149, 3) := by decide +kernel
theorem dX8_walkText_9 : decode cX8_walkText 9 = .ok (.ifCond .ne 35, 3) := by decide +kernel
theorem dX8_walkText_12 : decode cX8_walkText 12 = .ok (.aload_n 0, 1) := by decide +kernel
theorem dX8_walkText_13 : decode cX8_walkText 13 = .ok (.iload_n 2, 1) := by decide +kernel
theorem dX8_walkText_14 : decode cX8_walkText 14 = .ok (.iconst 0, 1) := by decide +kernel
theorem dX8_walkText_15 : decode cX8_walkText 15 = .ok (.iconst 3, 1) := by decide +kernel
theorem dX8_walkText_16 : decode cX8_walkText 16 = .ok (.invokestatic 49, 3) := by decide +kernel
theorem dX8_walkText_19 : decode cX8_walkText 19 = .ok (.ifCond .eq 13, 3) := by decide +kernel
theorem dX8_walkText_22 : decode cX8_walkText 22 = .ok (.iload_n 3, 1) := by decide +kernel
theorem dX8_walkText_23 : decode cX8_walkText 23 = .ok (.iconst 2, 1) := by decide +kernel
theorem dX8_walkText_24 : decode cX8_walkText 24 = .ok (.bipush 16, 2) := by decide +kernel
theorem dX8_walkText_26 : decode cX8_walkText 26 = .ok (.invokestatic 49, 3) := by decide +kernel
theorem dX8_walkText_29 : decode cX8_walkText 29 = .ok (.ifCond .ne 7, 3) := by decide +kernel
theorem dX8_walkText_32 : decode cX8_walkText 32 = .ok (.iconst 1, 1) := by decide +kernel
theorem dX8_walkText_33 : decode cX8_walkText 33 = .ok (.goto 4, 3) := by decide +kernel
theorem dX8_walkText_36 : decode cX8_walkText 36 = .ok (.iconst 0, 1) := by decide +kernel
theorem dX8_walkText_37 : decode cX8_walkText 37 = .ok (.iconst 2, 1) := by decide +kernel
theorem dX8_walkText_38 : decode cX8_walkText 38 = .ok (.invokevirtual 45, 3) := by decide +kernel
theorem dX8_walkText_41 : decode cX8_walkText 41 = .ok (.ifCond .eq 6, 3) := by decide +kernel
theorem dX8_walkText_44 : decode cX8_walkText 44 = .ok (.ldc 165, 2) := by decide +kernel
theorem dX8_walkText_46 : decode cX8_walkText 46 = .ok (.areturn, 1) := by decide +kernel
theorem dX8_walkText_47 : decode cX8_walkText 47 = .ok (.aload_n 0, 1) := by decide +kernel
theorem dX8_walkText_48 : decode cX8_walkText 48 = .ok (.iload_n 1, 1) := by decide +kernel
theorem dX8_walkText_49 : decode cX8_walkText 49 = .ok (.invokevirtual 167, 3) := by decide +kernel
theorem dX8_walkText_52 : decode cX8_walkText 52 = .ok (.iload_n 2, 1) := by decide +kernel
theorem dX8_walkText_53 : decode cX8_walkText 53 = .ok (.aaload, 1) := by decide +kernel
theorem dX8_walkText_54 : decode cX8_walkText 54 = .ok (.iload_n 3, 1) := by decide +kernel
theorem dX8_walkText_55 : decode cX8_walkText 55 = .ok (.invokestatic 171, 3) := by decide +kernel
theorem dX8_walkText_58 : decode cX8_walkText 58 = .ok (.areturn, 1) := by decide +kernel
theorem dX8_wide_0 : decode cX8_wide 0 = .ok (.iload_n 1, 1) := by decide +kernel
theorem dX8_wide_1 : decode cX8_wide 1 = .ok (.newarray .int, 2) := by decide +kernel
theorem dX8_wide_3 : decode cX8_wide 3 = .ok (.astore_n 2, 1) := by decide +kernel
theorem dX8_wide_4 : decode cX8_wide 4 = .ok (.iconst 0, 1) := by decide +kernel
theorem dX8_wide_5 : decode cX8_wide 5 = .ok (.istore_n 3, 1) := by decide +kernel
theorem dX8_wide_6 : decode cX8_wide 6 = .ok (.iload_n 3, 1) := by decide +kernel
theorem dX8_wide_7 : decode cX8_wide 7 = .ok (.aload_n 0, 1) := by decide +kernel
theorem dX8_wide_8 : decode cX8_wide 8 = .ok (.arraylength, 1) := by decide +kernel
theorem dX8_wide_9 : decode cX8_wide 9 = .ok (.if_icmp .ge 15, 3) := by decide +kernel
theorem dX8_wide_12 : decode cX8_wide 12 = .ok (.aload_n 2, 1) := by decide +kernel
theorem dX8_wide_13 : decode cX8_wide 13 = .ok (.iload_n 3, 1) := by decide +kernel
theorem dX8_wide_14 : decode cX8_wide 14 = .ok (.aload_n 0, 1) := by decide +kernel
theorem dX8_wide_15 : decode cX8_wide 15 = .ok (.iload_n 3, 1) := by decide +kernel
theorem dX8_wide_16 : decode cX8_wide 16 = .ok (.iaload, 1) := by decide +kernel
theorem dX8_wide_17 : decode cX8_wide 17 = .ok (.iastore, 1) := by decide +kernel
theorem dX8_wide_18 : decode cX8_wide 18 = .ok (.iinc 3 1, 3) := by decide +kernel
theorem dX8_wide_21 : decode cX8_wide 21 = .ok (.goto (-15), 3) := by decide +kernel
theorem dX8_wide_24 : decode cX8_wide 24 = .ok (.aload_n 2, 1) := by decide +kernel
theorem dX8_wide_25 : decode cX8_wide 25 = .ok (.areturn, 1) := by decide +kernel
theorem dX8_divisor_0 : decode cX8_divisor 0 = .ok (.aload_n 0, 1) := by decide +kernel
theorem dX8_divisor_1 : decode cX8_divisor 1 = .ok (.iconst 2, 1) := by decide +kernel
theorem dX8_divisor_2 : decode cX8_divisor 2 = .ok (.invokestatic 121, 3) := by decide +kernel
theorem dX8_divisor_5 : decode cX8_divisor 5 = .ok (.aload_n 1, 1) := by decide +kernel
theorem dX8_divisor_6 : decode cX8_divisor 6 = .ok (.iconst 2, 1) := by decide +kernel
theorem dX8_divisor_7 : decode cX8_divisor 7 = .ok (.invokestatic 121, 3) := by decide +kernel
theorem dX8_divisor_10 : decode cX8_divisor 10 = .ok (.invokestatic 175, 3) := by decide +kernel
theorem dX8_divisor_13 : decode cX8_divisor 13 = .ok (.istore_n 2, 1) := by decide +kernel
theorem dX8_divisor_14 : decode cX8_divisor 14 = .ok (.aload_n 0, 1) := by decide +kernel
theorem dX8_divisor_15 : decode cX8_divisor 15 = .ok (.aload_n 0, 1) := by decide +kernel
theorem dX8_divisor_16 : decode cX8_divisor 16 = .ok (.arraylength, 1) := by decide +kernel
theorem dX8_divisor_17 : decode cX8_divisor 17 = .ok (.aload_n 1, 1) := by decide +kernel
theorem dX8_divisor_18 : decode cX8_divisor 18 = .ok (.arraylength, 1) := by decide +kernel
theorem dX8_divisor_19 : decode cX8_divisor 19 = .ok (.invokestatic 71, 3) := by decide +kernel
theorem dX8_divisor_22 : decode cX8_divisor 22 = .ok (.invokestatic 178, 3) := by decide +kernel
theorem dX8_divisor_25 : decode cX8_divisor 25 = .ok (.astore_n 3, 1) := by decide +kernel
theorem dX8_divisor_26 : decode cX8_divisor 26 = .ok (.aload_n 1, 1) := by decide +kernel
theorem dX8_divisor_27 : decode cX8_divisor 27 = .ok (.aload_n 3, 1) := by decide +kernel
theorem dX8_divisor_28 : decode cX8_divisor 28 = .ok (.arraylength, 1) := by decide +kernel
theorem dX8_divisor_29 : decode cX8_divisor 29 = .ok (.invokestatic 178, 3) := by decide +kernel
theorem dX8_divisor_32 : decode cX8_divisor 32 = .ok (.astore 4, 2) := by decide +kernel
theorem dX8_divisor_34 : decode cX8_divisor 34 = .ok (.aload_n 3, 1) := by decide +kernel
theorem dX8_divisor_35 : decode cX8_divisor 35 = .ok (.invokestatic 89, 3) := by decide +kernel
theorem dX8_divisor_38 : decode cX8_divisor 38 = .ok (.ifCond .ne 119, 3) := by decide +kernel
theorem dX8_divisor_41 : decode cX8_divisor 41 = .ok (.aload_n 3, 1) := by decide +kernel
theorem dX8_divisor_42 : decode cX8_divisor 42 = .ok (.iconst 1, 1) := by decide +kernel
theorem dX8_divisor_43 : decode cX8_divisor 43 = .ok (.iaload, 1) := by decide +kernel
theorem dX8_divisor_44 : decode cX8_divisor 44 = .ok (.iconst 2, 1) := by decide +kernel
theorem dX8_divisor_45 : decode cX8_divisor 45 = .ok (.irem, 1) := by decide +kernel
theorem dX8_divisor_46 : decode cX8_divisor 46 = .ok (.ifCond .ne 12, 3) := by decide +kernel
theorem dX8_divisor_49 : decode cX8_divisor 49 = .ok (.aload_n 3, 1) := by decide +kernel
theorem dX8_divisor_50 : decode cX8_divisor 50 = .ok (.iconst 2, 1) := by decide +kernel
theorem dX8_divisor_51 : decode cX8_divisor 51 = .ok (.invokestatic 95, 3) := by decide +kernel
theorem dX8_divisor_54 : decode cX8_divisor 54 = .ok (.pop, 1) := by decide +kernel
theorem dX8_divisor_55 : decode cX8_divisor 55 = .ok (.goto (-14), 3) := by decide +kernel
theorem dX8_divisor_58 : decode cX8_divisor 58 = .ok (.aload 4, 2) := by decide +kernel
theorem dX8_divisor_60 : decode cX8_divisor 60 = .ok (.iconst 1, 1) := by decide +kernel
theorem dX8_divisor_61 : decode cX8_divisor 61 = .ok (.iaload, 1) := by decide +kernel
theorem dX8_divisor_62 : decode cX8_divisor 62 = .ok (.iconst 2, 1) := by decide +kernel
theorem dX8_divisor_63 : decode cX8_divisor 63 = .ok (.irem, 1) := by decide +kernel
theorem dX8_divisor_64 : decode cX8_divisor 64 = .ok (.ifCond .ne 13, 3) := by decide +kernel
theorem dX8_divisor_67 : decode cX8_divisor 67 = .ok (.aload 4, 2) := by decide +kernel
theorem dX8_divisor_69 : decode cX8_divisor 69 = .ok (.iconst 2, 1) := by decide +kernel
theorem dX8_divisor_70 : decode cX8_divisor 70 = .ok (.invokestatic 95, 3) := by decide +kernel
theorem dX8_divisor_73 : decode cX8_divisor 73 = .ok (.pop, 1) := by decide +kernel
theorem dX8_divisor_74 : decode cX8_divisor 74 = .ok (.goto (-16), 3) := by decide +kernel
theorem dX8_divisor_77 : decode cX8_divisor 77 = .ok (.aload_n 3, 1) := by decide +kernel
theorem dX8_divisor_78 : decode cX8_divisor 78 = .ok (.astore 5, 2) := by decide +kernel
theorem dX8_divisor_80 : decode cX8_divisor 80 = .ok (.aload_n 3, 1) := by decide +kernel
theorem dX8_divisor_81 : decode cX8_divisor 81 = .ok (.aload 4, 2) := by decide +kernel
theorem dX8_divisor_83 : decode cX8_divisor 83 = .ok (.invokestatic 63, 3) := by decide +kernel
theorem dX8_divisor_86 : decode cX8_divisor 86 = .ok (.ifCond .ge 10, 3) := by decide +kernel
theorem dX8_divisor_89 : decode cX8_divisor 89 = .ok (.aload 4, 2) := by decide +kernel
theorem dX8_divisor_91 : decode cX8_divisor 91 = .ok (.astore_n 3, 1) := by decide +kernel
theorem dX8_divisor_92 : decode cX8_divisor 92 = .ok (.aload 5, 2) := by decide +kernel
theorem dX8_divisor_94 : decode cX8_divisor 94 = .ok (.astore 4, 2) := by decide +kernel
theorem dX8_divisor_96 : decode cX8_divisor 96 = .ok (.iconst 0, 1) := by decide +kernel
theorem dX8_divisor_97 : decode cX8_divisor 97 = .ok (.istore 6, 2) := by decide +kernel
theorem dX8_divisor_99 : decode cX8_divisor 99 = .ok (.iconst 1, 1) := by decide +kernel
theorem dX8_divisor_100 : decode cX8_divisor 100 = .ok (.istore 7, 2) := by decide +kernel
theorem dX8_divisor_102 : decode cX8_divisor 102 = .ok (.iload 7, 2) := by decide +kernel
theorem dX8_divisor_104 : decode cX8_divisor 104 = .ok (.aload_n 3, 1) := by decide +kernel
theorem dX8_divisor_105 : decode cX8_divisor 105 = .ok (.arraylength, 1) := by decide +kernel
theorem dX8_divisor_106 : decode cX8_divisor 106 = .ok (.if_icmp .ge 48, 3) := by decide +kernel
theorem dX8_divisor_109 : decode cX8_divisor 109 = .ok (.aload_n 3, 1) := by decide +kernel
theorem dX8_divisor_110 : decode cX8_divisor 110 = .ok (.iload 7, 2) := by decide +kernel
theorem dX8_divisor_112 : decode cX8_divisor 112 = .ok (.iaload, 1) := by decide +kernel
theorem dX8_divisor_113 : decode cX8_divisor 113 = .ok (.aload 4, 2) := by decide +kernel
theorem dX8_divisor_115 : decode cX8_divisor 115 = .ok (.iload 7, 2) := by decide +kernel
theorem dX8_divisor_117 : decode cX8_divisor 117 = .ok (.iaload, 1) := by decide +kernel
theorem dX8_divisor_118 : decode cX8_divisor 118 = .ok (.isub, 1) := by decide +kernel
theorem dX8_divisor_119 : decode cX8_divisor 119 = .ok (.iload 6, 2) := by decide +kernel
theorem dX8_divisor_121 : decode cX8_divisor 121 = .ok (.isub, 1) := by decide +kernel
theorem dX8_divisor_122 : decode cX8_divisor 122 = .ok (.istore 8, 2) := by decide +kernel
theorem dX8_divisor_124 : decode cX8_divisor 124 = .ok (.iload 8, 2) := by decide +kernel
theorem dX8_divisor_126 : decode cX8_divisor 126 = .ok (.ifCond .ge 7, 3) := by decide +kernel
theorem dX8_divisor_129 : decode cX8_divisor 129 = .ok (.iconst 1, 1) := by decide +kernel
theorem dX8_divisor_130 : decode cX8_divisor 130 = .ok (.goto 4, 3) := by decide +kernel
theorem dX8_divisor_133 : decode cX8_divisor 133 = .ok (.iconst 0, 1) := by decide +kernel
theorem dX8_divisor_134 : decode cX8_divisor 134 = .ok (.istore 6, 2) := by decide +kernel
theorem dX8_divisor_136 : decode cX8_divisor 136 = .ok (.aload_n 3, 1) := by decide +kernel
theorem dX8_divisor_137 : decode cX8_divisor 137 = .ok (.iload 7, 2) := by decide +kernel
theorem dX8_divisor_139 : decode cX8_divisor 139 = .ok (.iload 8, 2) := by decide +kernel
theorem dX8_divisor_141 : decode cX8_divisor 141 = .ok (.iload 6, 2) := by decide +kernel
theorem dX8_divisor_143 : decode cX8_divisor 143 = .ok (.bipush 30, 2) := by decide +kernel
theorem dX8_divisor_145 : decode cX8_divisor 145 = .ok (.ishl, 1) := by decide +kernel
theorem dX8_divisor_146 : decode cX8_divisor 146 = .ok (.iadd, 1) := by decide +kernel
theorem dX8_divisor_147 : decode cX8_divisor 147 = .ok (.iastore, 1) := by decide +kernel
theorem dX8_divisor_148 : decode cX8_divisor 148 = .ok (.iinc 7 1, 3) := by decide +kernel
theorem dX8_divisor_151 : decode cX8_divisor 151 = .ok (.goto (-49), 3) := by decide +kernel
theorem dX8_divisor_154 : decode cX8_divisor 154 = .ok (.goto (-120), 3) := by decide +kernel
theorem dX8_divisor_157 : decode cX8_divisor 157 = .ok (.aload 4, 2) := by decide +kernel
theorem dX8_divisor_159 : decode cX8_divisor 159 = .ok (.invokestatic 181, 3) := by decide +kernel
theorem dX8_divisor_162 : decode cX8_divisor 162 = .ok (.l2i, 1) := by decide +kernel
theorem dX8_divisor_163 : decode cX8_divisor 163 = .ok (.iload_n 2, 1) := by decide +kernel
theorem dX8_divisor_164 : decode cX8_divisor 164 = .ok (.ishl, 1) := by decide +kernel
theorem dX8_divisor_165 : decode cX8_divisor 165 = .ok (.ireturn, 1) := by decide +kernel
theorem dX8_tested_0 : decode cX8_tested 0 = .ok (.iload_n 2, 1) := by decide +kernel
theorem dX8_tested_1 : decode cX8_tested 1 = .ok (.ifCond .ne 13, 3) := by decide +kernel
theorem dX8_tested_4 : decode cX8_tested 4 = .ok (.aload_n 1, 1) := by decide +kernel
theorem dX8_tested_5 : decode cX8_tested 5 = .ok (.iconst 0, 1) := by decide +kernel
theorem dX8_tested_6 : decode cX8_tested 6 = .ok (.aaload, 1) := by decide +kernel
theorem dX8_tested_7 : decode cX8_tested 7 = .ok (.aload_n 1, 1) := by decide +kernel
theorem dX8_tested_8 : decode cX8_tested 8 = .ok (.iconst 1, 1) := by decide +kernel
theorem dX8_tested_9 : decode cX8_tested 9 = .ok (.aaload, 1) := by decide +kernel
theorem dX8_tested_10 : decode cX8_tested 10 = .ok (.invokestatic 185, 3) := by decide +kernel
theorem dX8_tested_13 : decode cX8_tested 13 = .ok (.ireturn, 1) := by decide +kernel
theorem dX8_tested_14 : decode cX8_tested 14 = .ok (.iload_n 2, 1) := by decide +kernel
theorem dX8_tested_15 : decode cX8_tested 15 = .ok (.iconst 1, 1) := by decide +kernel
theorem dX8_tested_16 : decode cX8_tested 16 = .ok (.if_icmp .ne 27, 3) := by decide +kernel
theorem dX8_tested_19 : decode cX8_tested 19 = .ok (.aload_n 1, 1) := by decide +kernel
theorem dX8_tested_20 : decode cX8_tested 20 = .ok (.iconst 0, 1) := by decide +kernel
theorem dX8_tested_21 : decode cX8_tested 21 = .ok (.aaload, 1) := by decide +kernel
theorem dX8_tested_22 : decode cX8_tested 22 = .ok (.aload_n 1, 1) := by decide +kernel
theorem dX8_tested_23 : decode cX8_tested 23 = .ok (.iconst 3, 1) := by decide +kernel
theorem dX8_tested_24 : decode cX8_tested 24 = .ok (.aaload, 1) := by decide +kernel
theorem dX8_tested_25 : decode cX8_tested 25 = .ok (.invokestatic 124, 3) := by decide +kernel
theorem dX8_tested_28 : decode cX8_tested 28 = .ok (.aload_n 1, 1) := by decide +kernel
theorem dX8_tested_29 : decode cX8_tested 29 = .ok (.iconst 2, 1) := by decide +kernel
theorem dX8_tested_30 : decode cX8_tested 30 = .ok (.aaload, 1) := by decide +kernel
theorem dX8_tested_31 : decode cX8_tested 31 = .ok (.aload_n 1, 1) := by decide +kernel
theorem dX8_tested_32 : decode cX8_tested 32 = .ok (.iconst 1, 1) := by decide +kernel
theorem dX8_tested_33 : decode cX8_tested 33 = .ok (.aaload, 1) := by decide +kernel
theorem dX8_tested_34 : decode cX8_tested 34 = .ok (.invokestatic 124, 3) := by decide +kernel
theorem dX8_tested_37 : decode cX8_tested 37 = .ok (.invokestatic 127, 3) := by decide +kernel
theorem dX8_tested_40 : decode cX8_tested 40 = .ok (.goto 13, 3) := by decide +kernel
theorem dX8_tested_43 : decode cX8_tested 43 = .ok (.iload_n 0, 1) := by decide +kernel
theorem dX8_tested_44 : decode cX8_tested 44 = .ok (.aload_n 1, 1) := by decide +kernel
theorem dX8_tested_45 : decode cX8_tested 45 = .ok (.iconst 0, 1) := by decide +kernel
theorem dX8_tested_46 : decode cX8_tested 46 = .ok (.aaload, 1) := by decide +kernel
theorem dX8_tested_47 : decode cX8_tested 47 = .ok (.aload_n 1, 1) := by decide +kernel
theorem dX8_tested_48 : decode cX8_tested 48 = .ok (.iconst 1, 1) := by decide +kernel
theorem dX8_tested_49 : decode cX8_tested 49 = .ok (.aaload, 1) := by decide +kernel
theorem dX8_tested_50 : decode cX8_tested 50 = .ok (.invokestatic 188, 3) := by decide +kernel
theorem dX8_tested_53 : decode cX8_tested 53 = .ok (.invokestatic 181, 3) := by decide +kernel
theorem dX8_tested_56 : decode cX8_tested 56 = .ok (.l2i, 1) := by decide +kernel
theorem dX8_tested_57 : decode cX8_tested 57 = .ok (.ireturn, 1) := by decide +kernel
theorem dX8_test_0 : decode cX8_test 0 = .ok (.aload_n 0, 1) := by decide +kernel
theorem dX8_test_1 : decode cX8_test 1 = .ok (.iload_n 1, 1) := by decide +kernel
theorem dX8_test_2 : decode cX8_test 2 = .ok (.invokestatic 145, 3) := by decide +kernel
theorem dX8_test_5 : decode cX8_test 5 = .ok (.iconst 1, 1) := by decide +kernel
theorem dX8_test_6 : decode cX8_test 6 = .ok (.invokevirtual 149, 3) := by decide +kernel
theorem dX8_test_9 : decode cX8_test 9 = .ok (.ifCond .ne 25, 3) := by decide +kernel
theorem dX8_test_12 : decode cX8_test 12 = .ok (.aload_n 0, 1) := by decide +kernel
theorem dX8_test_13 : decode cX8_test 13 = .ok (.iload_n 2, 1) := by decide +kernel
theorem dX8_test_14 : decode cX8_test 14 = .ok (.iconst 0, 1) := by decide +kernel
theorem dX8_test_15 : decode cX8_test 15 = .ok (.iconst 2, 1) := by decide +kernel
theorem dX8_test_16 : decode cX8_test 16 = .ok (.invokestatic 49, 3) := by decide +kernel
theorem dX8_test_19 : decode cX8_test 19 = .ok (.ifCond .ne 7, 3) := by decide +kernel
theorem dX8_test_22 : decode cX8_test 22 = .ok (.iconst 1, 1) := by decide +kernel
theorem dX8_test_23 : decode cX8_test 23 = .ok (.goto 4, 3) := by decide +kernel
theorem dX8_test_26 : decode cX8_test 26 = .ok (.iconst 0, 1) := by decide +kernel
theorem dX8_test_27 : decode cX8_test 27 = .ok (.iconst 2, 1) := by decide +kernel
theorem dX8_test_28 : decode cX8_test 28 = .ok (.invokevirtual 45, 3) := by decide +kernel
theorem dX8_test_31 : decode cX8_test 31 = .ok (.ifCond .eq 7, 3) := by decide +kernel
theorem dX8_test_34 : decode cX8_test 34 = .ok (.iconst 0, 1) := by decide +kernel
theorem dX8_test_35 : decode cX8_test 35 = .ok (.goto 18, 3) := by decide +kernel
theorem dX8_test_38 : decode cX8_test 38 = .ok (.aload_n 0, 1) := by decide +kernel
theorem dX8_test_39 : decode cX8_test 39 = .ok (.getfield 9, 3) := by decide +kernel
theorem dX8_test_42 : decode cX8_test 42 = .ok (.iload_n 1, 1) := by decide +kernel
theorem dX8_test_43 : decode cX8_test 43 = .ok (.iaload, 1) := by decide +kernel
theorem dX8_test_44 : decode cX8_test 44 = .ok (.aload_n 0, 1) := by decide +kernel
theorem dX8_test_45 : decode cX8_test 45 = .ok (.iload_n 1, 1) := by decide +kernel
theorem dX8_test_46 : decode cX8_test 46 = .ok (.invokevirtual 167, 3) := by decide +kernel
theorem dX8_test_49 : decode cX8_test 49 = .ok (.iload_n 2, 1) := by decide +kernel
theorem dX8_test_50 : decode cX8_test 50 = .ok (.invokestatic 192, 3) := by decide +kernel
theorem dX8_test_53 : decode cX8_test 53 = .ok (.ireturn, 1) := by decide +kernel
theorem dX8_walkBits_0 : decode cX8_walkBits 0 = .ok (.aload_n 0, 1) := by decide +kernel
theorem dX8_walkBits_1 : decode cX8_walkBits 1 = .ok (.iload_n 1, 1) := by decide +kernel
theorem dX8_walkBits_2 : decode cX8_walkBits 2 = .ok (.invokestatic 145, 3) := by decide +kernel
theorem dX8_walkBits_5 : decode cX8_walkBits 5 = .ok (.iconst 1, 1) := by decide +kernel
theorem dX8_walkBits_6 : decode cX8_walkBits 6 = .ok (.invokevirtual 149, 3) := by decide +kernel
theorem dX8_walkBits_9 : decode cX8_walkBits 9 = .ok (.ifCond .ne 25, 3) := by decide +kernel
theorem dX8_walkBits_12 : decode cX8_walkBits 12 = .ok (.aload_n 0, 1) := by decide +kernel
theorem dX8_walkBits_13 : decode cX8_walkBits 13 = .ok (.iload_n 3, 1) := by decide +kernel
theorem dX8_walkBits_14 : decode cX8_walkBits 14 = .ok (.iconst 0, 1) := by decide +kernel
theorem dX8_walkBits_15 : decode cX8_walkBits 15 = .ok (.iconst 2, 1) := by decide +kernel
theorem dX8_walkBits_16 : decode cX8_walkBits 16 = .ok (.invokestatic 49, 3) := by decide +kernel
theorem dX8_walkBits_19 : decode cX8_walkBits 19 = .ok (.ifCond .ne 7, 3) := by decide +kernel
theorem dX8_walkBits_22 : decode cX8_walkBits 22 = .ok (.iconst 1, 1) := by decide +kernel
theorem dX8_walkBits_23 : decode cX8_walkBits 23 = .ok (.goto 4, 3) := by decide +kernel
theorem dX8_walkBits_26 : decode cX8_walkBits 26 = .ok (.iconst 0, 1) := by decide +kernel
theorem dX8_walkBits_27 : decode cX8_walkBits 27 = .ok (.iconst 2, 1) := by decide +kernel
theorem dX8_walkBits_28 : decode cX8_walkBits 28 = .ok (.invokevirtual 45, 3) := by decide +kernel
theorem dX8_walkBits_31 : decode cX8_walkBits 31 = .ok (.ifCond .eq 5, 3) := by decide +kernel
theorem dX8_walkBits_34 : decode cX8_walkBits 34 = .ok (.iconst 0, 1) := by decide +kernel
theorem dX8_walkBits_35 : decode cX8_walkBits 35 = .ok (.ireturn, 1) := by decide +kernel
theorem dX8_walkBits_36 : decode cX8_walkBits 36 = .ok (.aload_n 0, 1) := by decide +kernel
theorem dX8_walkBits_37 : decode cX8_walkBits 37 = .ok (.iload_n 1, 1) := by decide +kernel
theorem dX8_walkBits_38 : decode cX8_walkBits 38 = .ok (.invokevirtual 167, 3) := by decide +kernel
theorem dX8_walkBits_41 : decode cX8_walkBits 41 = .ok (.iload_n 2, 1) := by decide +kernel
theorem dX8_walkBits_42 : decode cX8_walkBits 42 = .ok (.ifCond .eq 7, 3) := by decide +kernel
theorem dX8_walkBits_45 : decode cX8_walkBits 45 = .ok (.iconst 0, 1) := by decide +kernel
theorem dX8_walkBits_46 : decode cX8_walkBits 46 = .ok (.goto 4, 3) := by decide +kernel
theorem dX8_walkBits_49 : decode cX8_walkBits 49 = .ok (.iconst 1, 1) := by decide +kernel
theorem dX8_walkBits_50 : decode cX8_walkBits 50 = .ok (.aaload, 1) := by decide +kernel
theorem dX8_walkBits_51 : decode cX8_walkBits 51 = .ok (.iload_n 3, 1) := by decide +kernel
theorem dX8_walkBits_52 : decode cX8_walkBits 52 = .ok (.invokestatic 121, 3) := by decide +kernel
theorem dX8_walkBits_55 : decode cX8_walkBits 55 = .ok (.ireturn, 1) := by decide +kernel
theorem dX8_bit_0 : decode cX8_bit 0 = .ok (.aload_n 0, 1) := by decide +kernel
theorem dX8_bit_1 : decode cX8_bit 1 = .ok (.iload_n 1, 1) := by decide +kernel
theorem dX8_bit_2 : decode cX8_bit 2 = .ok (.invokestatic 145, 3) := by decide +kernel
theorem dX8_bit_5 : decode cX8_bit 5 = .ok (.iconst 1, 1) := by decide +kernel
theorem dX8_bit_6 : decode cX8_bit 6 = .ok (.invokevirtual 149, 3) := by decide +kernel
theorem dX8_bit_9 : decode cX8_bit 9 = .ok (.ifCond .ne 26, 3) := by decide +kernel
theorem dX8_bit_12 : decode cX8_bit 12 = .ok (.aload_n 0, 1) := by decide +kernel
theorem dX8_bit_13 : decode cX8_bit 13 = .ok (.iload_n 3, 1) := by decide +kernel
theorem dX8_bit_14 : decode cX8_bit 14 = .ok (.iconst 0, 1) := by decide +kernel
theorem dX8_bit_15 : decode cX8_bit 15 = .ok (.bipush 119, 2) := by decide +kernel
theorem dX8_bit_17 : decode cX8_bit 17 = .ok (.invokestatic 49, 3) := by decide +kernel
theorem dX8_bit_20 : decode cX8_bit 20 = .ok (.ifCond .ne 7, 3) := by decide +kernel
theorem dX8_bit_23 : decode cX8_bit 23 = .ok (.iconst 1, 1) := by decide +kernel
theorem dX8_bit_24 : decode cX8_bit 24 = .ok (.goto 4, 3) := by decide +kernel
theorem dX8_bit_27 : decode cX8_bit 27 = .ok (.iconst 0, 1) := by decide +kernel
theorem dX8_bit_28 : decode cX8_bit 28 = .ok (.iconst 2, 1) := by decide +kernel
theorem dX8_bit_29 : decode cX8_bit 29 = .ok (.invokevirtual 45, 3) := by decide +kernel
theorem dX8_bit_32 : decode cX8_bit 32 = .ok (.ifCond .eq 5, 3) := by decide +kernel
theorem dX8_bit_35 : decode cX8_bit 35 = .ok (.iconst 0, 1) := by decide +kernel
theorem dX8_bit_36 : decode cX8_bit 36 = .ok (.ireturn, 1) := by decide +kernel
theorem dX8_bit_37 : decode cX8_bit 37 = .ok (.aload_n 0, 1) := by decide +kernel
theorem dX8_bit_38 : decode cX8_bit 38 = .ok (.iload_n 1, 1) := by decide +kernel
theorem dX8_bit_39 : decode cX8_bit 39 = .ok (.invokevirtual 167, 3) := by decide +kernel
theorem dX8_bit_42 : decode cX8_bit 42 = .ok (.iload_n 2, 1) := by decide +kernel
theorem dX8_bit_43 : decode cX8_bit 43 = .ok (.ifCond .eq 7, 3) := by decide +kernel
theorem dX8_bit_46 : decode cX8_bit 46 = .ok (.iconst 0, 1) := by decide +kernel
theorem dX8_bit_47 : decode cX8_bit 47 = .ok (.goto 4, 3) := by decide +kernel
theorem dX8_bit_50 : decode cX8_bit 50 = .ok (.iconst 1, 1) := by decide +kernel
theorem dX8_bit_51 : decode cX8_bit 51 = .ok (.aaload, 1) := by decide +kernel
theorem dX8_bit_52 : decode cX8_bit 52 = .ok (.iload_n 3, 1) := by decide +kernel
theorem dX8_bit_53 : decode cX8_bit 53 = .ok (.invokestatic 117, 3) := by decide +kernel
theorem dX8_bit_56 : decode cX8_bit 56 = .ok (.ireturn, 1) := by decide +kernel
theorem dX8_isRead_0 : decode cX8_isRead 0 = .ok (.aload_n 0, 1) := by decide +kernel
theorem dX8_isRead_1 : decode cX8_isRead 1 = .ok (.iload_n 1, 1) := by decide +kernel
theorem dX8_isRead_2 : decode cX8_isRead 2 = .ok (.invokestatic 145, 3) := by decide +kernel
theorem dX8_isRead_5 : decode cX8_isRead 5 = .ok (.iconst 1, 1) := by decide +kernel
theorem dX8_isRead_6 : decode cX8_isRead 6 = .ok (.invokevirtual 149, 3) := by decide +kernel
theorem dX8_isRead_9 : decode cX8_isRead 9 = .ok (.ifCond .ne 34, 3) := by decide +kernel
theorem dX8_isRead_12 : decode cX8_isRead 12 = .ok (.aload_n 0, 1) := by decide +kernel
theorem dX8_isRead_13 : decode cX8_isRead 13 = .ok (.iload_n 2, 1) := by decide +kernel
theorem dX8_isRead_14 : decode cX8_isRead 14 = .ok (.ifCond .eq 17, 3) := by decide +kernel
theorem dX8_isRead_17 : decode cX8_isRead 17 = .ok (.iload_n 2, 1) := by decide +kernel
theorem dX8_isRead_18 : decode cX8_isRead 18 = .ok (.iconst 2, 1) := by decide +kernel
theorem dX8_isRead_19 : decode cX8_isRead 19 = .ok (.bipush 16, 2) := by decide +kernel
theorem dX8_isRead_21 : decode cX8_isRead 21 = .ok (.invokestatic 49, 3) := by decide +kernel
theorem dX8_isRead_24 : decode cX8_isRead 24 = .ok (.ifCond .ne 7, 3) := by decide +kernel
theorem dX8_isRead_27 : decode cX8_isRead 27 = .ok (.iconst 1, 1) := by decide +kernel
theorem dX8_isRead_28 : decode cX8_isRead 28 = .ok (.goto 4, 3) := by decide +kernel
theorem dX8_isRead_31 : decode cX8_isRead 31 = .ok (.iconst 0, 1) := by decide +kernel
theorem dX8_isRead_32 : decode cX8_isRead 32 = .ok (.iconst 2, 1) := by decide +kernel
theorem dX8_isRead_33 : decode cX8_isRead 33 = .ok (.invokevirtual 45, 3) := by decide +kernel
theorem dX8_isRead_36 : decode cX8_isRead 36 = .ok (.ifCond .ne 7, 3) := by decide +kernel
theorem dX8_isRead_39 : decode cX8_isRead 39 = .ok (.iconst 1, 1) := by decide +kernel
theorem dX8_isRead_40 : decode cX8_isRead 40 = .ok (.goto 4, 3) := by decide +kernel
theorem dX8_isRead_43 : decode cX8_isRead 43 = .ok (.iconst 0, 1) := by decide +kernel
theorem dX8_isRead_44 : decode cX8_isRead 44 = .ok (.ireturn, 1) := by decide +kernel
theorem dX8_isNear_0 : decode cX8_isNear 0 = .ok (.aload_n 0, 1) := by decide +kernel
theorem dX8_isNear_1 : decode cX8_isNear 1 = .ok (.iload_n 1, 1) := by decide +kernel
theorem dX8_isNear_2 : decode cX8_isNear 2 = .ok (.invokestatic 145, 3) := by decide +kernel
theorem dX8_isNear_5 : decode cX8_isNear 5 = .ok (.iconst 1, 1) := by decide +kernel
theorem dX8_isNear_6 : decode cX8_isNear 6 = .ok (.invokevirtual 149, 3) := by decide +kernel
theorem dX8_isNear_9 : decode cX8_isNear 9 = .ok (.ifCond .ne 25, 3) := by decide +kernel
theorem dX8_isNear_12 : decode cX8_isNear 12 = .ok (.aload_n 0, 1) := by decide +kernel
theorem dX8_isNear_13 : decode cX8_isNear 13 = .ok (.iload_n 2, 1) := by decide +kernel
theorem dX8_isNear_14 : decode cX8_isNear 14 = .ok (.iconst 1, 1) := by decide +kernel
theorem dX8_isNear_15 : decode cX8_isNear 15 = .ok (.iconst 3, 1) := by decide +kernel
theorem dX8_isNear_16 : decode cX8_isNear 16 = .ok (.invokestatic 49, 3) := by decide +kernel
theorem dX8_isNear_19 : decode cX8_isNear 19 = .ok (.ifCond .ne 7, 3) := by decide +kernel
theorem dX8_isNear_22 : decode cX8_isNear 22 = .ok (.iconst 1, 1) := by decide +kernel
theorem dX8_isNear_23 : decode cX8_isNear 23 = .ok (.goto 4, 3) := by decide +kernel
theorem dX8_isNear_26 : decode cX8_isNear 26 = .ok (.iconst 0, 1) := by decide +kernel
theorem dX8_isNear_27 : decode cX8_isNear 27 = .ok (.iconst 2, 1) := by decide +kernel
theorem dX8_isNear_28 : decode cX8_isNear 28 = .ok (.invokevirtual 45, 3) := by decide +kernel
theorem dX8_isNear_31 : decode cX8_isNear 31 = .ok (.ifCond .eq 5, 3) := by decide +kernel
theorem dX8_isNear_34 : decode cX8_isNear 34 = .ok (.iconst 0, 1) := by decide +kernel
theorem dX8_isNear_35 : decode cX8_isNear 35 = .ok (.ireturn, 1) := by decide +kernel
theorem dX8_isNear_36 : decode cX8_isNear 36 = .ok (.aload_n 0, 1) := by decide +kernel
theorem dX8_isNear_37 : decode cX8_isNear 37 = .ok (.iload_n 1, 1) := by decide +kernel
theorem dX8_isNear_38 : decode cX8_isNear 38 = .ok (.invokevirtual 167, 3) := by decide +kernel
theorem dX8_isNear_41 : decode cX8_isNear 41 = .ok (.astore_n 3, 1) := by decide +kernel
theorem dX8_isNear_42 : decode cX8_isNear 42 = .ok (.aload_n 0, 1) := by decide +kernel
theorem dX8_isNear_43 : decode cX8_isNear 43 = .ok (.getfield 9, 3) := by decide +kernel
theorem dX8_isNear_46 : decode cX8_isNear 46 = .ok (.iload_n 1, 1) := by decide +kernel
theorem dX8_isNear_47 : decode cX8_isNear 47 = .ok (.iaload, 1) := by decide +kernel
theorem dX8_isNear_48 : decode cX8_isNear 48 = .ok (.aload_n 3, 1) := by decide +kernel
theorem dX8_isNear_49 : decode cX8_isNear 49 = .ok (.iconst 2, 1) := by decide +kernel
theorem dX8_isNear_50 : decode cX8_isNear 50 = .ok (.invokestatic 192, 3) := by decide +kernel
theorem dX8_isNear_53 : decode cX8_isNear 53 = .ok (.invokestatic 196, 3) := by decide +kernel
theorem dX8_isNear_56 : decode cX8_isNear 56 = .ok (.istore 4, 2) := by decide +kernel
theorem dX8_isNear_58 : decode cX8_isNear 58 = .ok (.iload_n 2, 1) := by decide +kernel
theorem dX8_isNear_59 : decode cX8_isNear 59 = .ok (.iload 4, 2) := by decide +kernel
theorem dX8_isNear_61 : decode cX8_isNear 61 = .ok (.imul, 1) := by decide +kernel
theorem dX8_isNear_62 : decode cX8_isNear 62 = .ok (.i2l, 1) := by decide +kernel
theorem dX8_isNear_63 : decode cX8_isNear 63 = .ok (.invokestatic 20, 3) := by decide +kernel
theorem dX8_isNear_66 : decode cX8_isNear 66 = .ok (.aload_n 0, 1) := by decide +kernel
theorem dX8_isNear_67 : decode cX8_isNear 67 = .ok (.getfield 9, 3) := by decide +kernel
theorem dX8_isNear_70 : decode cX8_isNear 70 = .ok (.iload_n 1, 1) := by decide +kernel
theorem dX8_isNear_71 : decode cX8_isNear 71 = .ok (.iaload, 1) := by decide +kernel
theorem dX8_isNear_72 : decode cX8_isNear 72 = .ok (.aload_n 0, 1) := by decide +kernel
theorem dX8_isNear_73 : decode cX8_isNear 73 = .ok (.getfield 13, 3) := by decide +kernel
theorem dX8_isNear_76 : decode cX8_isNear 76 = .ok (.iload_n 1, 1) := by decide +kernel
theorem dX8_isNear_77 : decode cX8_isNear 77 = .ok (.iaload, 1) := by decide +kernel
theorem dX8_isNear_78 : decode cX8_isNear 78 = .ok (.iconst 1, 1) := by decide +kernel
theorem dX8_isNear_79 : decode cX8_isNear 79 = .ok (.iadd, 1) := by decide +kernel
theorem dX8_isNear_80 : decode cX8_isNear 80 = .ok (.invokestatic 134, 3) := by decide +kernel
theorem dX8_isNear_83 : decode cX8_isNear 83 = .ok (.iconst 1, 1) := by decide +kernel
theorem dX8_isNear_84 : decode cX8_isNear 84 = .ok (.aaload, 1) := by decide +kernel
theorem dX8_isNear_85 : decode cX8_isNear 85 = .ok (.invokestatic 124, 3) := by decide +kernel
theorem dX8_isNear_88 : decode cX8_isNear 88 = .ok (.aload_n 3, 1) := by decide +kernel
theorem dX8_isNear_89 : decode cX8_isNear 89 = .ok (.iconst 0, 1) := by decide +kernel
theorem dX8_isNear_90 : decode cX8_isNear 90 = .ok (.aaload, 1) := by decide +kernel
theorem dX8_isNear_91 : decode cX8_isNear 91 = .ok (.invokestatic 127, 3) := by decide +kernel
theorem dX8_isNear_94 : decode cX8_isNear 94 = .ok (.astore 5, 2) := by decide +kernel
theorem dX8_isNear_96 : decode cX8_isNear 96 = .ok (.aload 5, 2) := by decide +kernel
theorem dX8_isNear_98 : decode cX8_isNear 98 = .ok (.iconst 0, 1) := by decide +kernel
theorem dX8_isNear_99 : decode cX8_isNear 99 = .ok (.iaload, 1) := by decide +kernel
theorem dX8_isNear_100 : decode cX8_isNear 100 = .ok (.ifCond .lt 38, 3) := by decide +kernel
theorem dX8_isNear_103 : decode cX8_isNear 103 = .ok (.aload 5, 2) := by decide +kernel
theorem dX8_isNear_105 : decode cX8_isNear 105 = .ok (.aload 5, 2) := by decide +kernel
theorem dX8_isNear_107 : decode cX8_isNear 107 = .ok (.invokestatic 124, 3) := by decide +kernel
theorem dX8_isNear_110 : decode cX8_isNear 110 = .ok (.aload_n 0, 1) := by decide +kernel
theorem dX8_isNear_111 : decode cX8_isNear 111 = .ok (.getfield 9, 3) := by decide +kernel
theorem dX8_isNear_114 : decode cX8_isNear 114 = .ok (.iload_n 1, 1) := by decide +kernel
theorem dX8_isNear_115 : decode cX8_isNear 115 = .ok (.iaload, 1) := by decide +kernel
theorem dX8_isNear_116 : decode cX8_isNear 116 = .ok (.i2l, 1) := by decide +kernel
theorem dX8_isNear_117 : decode cX8_isNear 117 = .ok (.invokestatic 20, 3) := by decide +kernel
theorem dX8_isNear_120 : decode cX8_isNear 120 = .ok (.aload_n 3, 1) := by decide +kernel
theorem dX8_isNear_121 : decode cX8_isNear 121 = .ok (.iconst 1, 1) := by decide +kernel
theorem dX8_isNear_122 : decode cX8_isNear 122 = .ok (.aaload, 1) := by decide +kernel
theorem dX8_isNear_123 : decode cX8_isNear 123 = .ok (.aload_n 3, 1) := by decide +kernel
theorem dX8_isNear_124 : decode cX8_isNear 124 = .ok (.iconst 1, 1) := by decide +kernel
theorem dX8_isNear_125 : decode cX8_isNear 125 = .ok (.aaload, 1) := by decide +kernel
theorem dX8_isNear_126 : decode cX8_isNear 126 = .ok (.invokestatic 124, 3) := by decide +kernel
theorem dX8_isNear_129 : decode cX8_isNear 129 = .ok (.invokestatic 124, 3) := by decide +kernel
theorem dX8_isNear_132 : decode cX8_isNear 132 = .ok (.invokestatic 199, 3) := by decide +kernel
theorem dX8_isNear_135 : decode cX8_isNear 135 = .ok (.ifCond .ge 7, 3) := by decide +kernel
theorem dX8_isNear_138 : decode cX8_isNear 138 = .ok (.iconst 1, 1) := by decide +kernel
theorem dX8_isNear_139 : decode cX8_isNear 139 = .ok (.goto 4, 3) := by decide +kernel
theorem dX8_isNear_142 : decode cX8_isNear 142 = .ok (.iconst 0, 1) := by decide +kernel
theorem dX8_isNear_143 : decode cX8_isNear 143 = .ok (.ireturn, 1) := by decide +kernel
theorem dX8_places_0 : decode cX8_places 0 = .ok (.aload_n 0, 1) := by decide +kernel
theorem dX8_places_1 : decode cX8_places 1 = .ok (.iload_n 1, 1) := by decide +kernel
theorem dX8_places_2 : decode cX8_places 2 = .ok (.invokevirtual 167, 3) := by decide +kernel
theorem dX8_places_5 : decode cX8_places 5 = .ok (.astore_n 2, 1) := by decide +kernel
theorem dX8_places_6 : decode cX8_places 6 = .ok (.aload_n 2, 1) := by decide +kernel
theorem dX8_places_7 : decode cX8_places 7 = .ok (.iconst 0, 1) := by decide +kernel
theorem dX8_places_8 : decode cX8_places 8 = .ok (.aaload, 1) := by decide +kernel
theorem dX8_places_9 : decode cX8_places 9 = .ok (.astore_n 3, 1) := by decide +kernel
theorem dX8_places_10 : decode cX8_places 10 = .ok (.bipush 17, 2) := by decide +kernel
theorem dX8_places_12 : decode cX8_places 12 = .ok (.newarray .int, 2) := by decide +kernel
theorem dX8_places_14 : decode cX8_places 14 = .ok (.astore 4, 2) := by decide +kernel
theorem dX8_places_16 : decode cX8_places 16 = .ok (.iconst 0, 1) := by decide +kernel
theorem dX8_places_17 : decode cX8_places 17 = .ok (.istore 5, 2) := by decide +kernel
theorem dX8_places_19 : decode cX8_places 19 = .ok (.iload 5, 2) := by decide +kernel
theorem dX8_places_21 : decode cX8_places 21 = .ok (.bipush 17, 2) := by decide +kernel
theorem dX8_places_23 : decode cX8_places 23 = .ok (.if_icmp .ge 55, 3) := by decide +kernel
theorem dX8_places_26 : decode cX8_places 26 = .ok (.iload 5, 2) := by decide +kernel
theorem dX8_places_28 : decode cX8_places 28 = .ok (.ifCond .le 14, 3) := by decide +kernel
theorem dX8_places_31 : decode cX8_places 31 = .ok (.ldc2_w 202, 3) := by decide +kernel
theorem dX8_places_34 : decode cX8_places 34 = .ok (.invokestatic 20, 3) := by decide +kernel
theorem dX8_places_37 : decode cX8_places 37 = .ok (.aload_n 3, 1) := by decide +kernel
theorem dX8_places_38 : decode cX8_places 38 = .ok (.invokestatic 124, 3) := by decide +kernel
theorem dX8_places_41 : decode cX8_places 41 = .ok (.astore_n 3, 1) := by decide +kernel
theorem dX8_places_42 : decode cX8_places 42 = .ok (.aload_n 3, 1) := by decide +kernel
theorem dX8_places_43 : decode cX8_places 43 = .ok (.aload_n 2, 1) := by decide +kernel
theorem dX8_places_44 : decode cX8_places 44 = .ok (.iconst 1, 1) := by decide +kernel
theorem dX8_places_45 : decode cX8_places 45 = .ok (.aaload, 1) := by decide +kernel
theorem dX8_places_46 : decode cX8_places 46 = .ok (.invokestatic 199, 3) := by decide +kernel
theorem dX8_places_49 : decode cX8_places 49 = .ok (.ifCond .lt 23, 3) := by decide +kernel
theorem dX8_places_52 : decode cX8_places 52 = .ok (.aload_n 3, 1) := by decide +kernel
theorem dX8_places_53 : decode cX8_places 53 = .ok (.aload_n 2, 1) := by decide +kernel
theorem dX8_places_54 : decode cX8_places 54 = .ok (.iconst 1, 1) := by decide +kernel
theorem dX8_places_55 : decode cX8_places 55 = .ok (.aaload, 1) := by decide +kernel
theorem dX8_places_56 : decode cX8_places 56 = .ok (.invokestatic 67, 3) := by decide +kernel
theorem dX8_places_59 : decode cX8_places 59 = .ok (.astore_n 3, 1) := by decide +kernel
theorem dX8_places_60 : decode cX8_places 60 = .ok (.aload 4, 2) := by decide +kernel
theorem dX8_places_62 : decode cX8_places 62 = .ok (.iload 5, 2) := by decide +kernel
theorem dX8_places_64 : decode cX8_places 64 = .ok (.dup2, 1) := by decide +kernel
theorem dX8_places_65 : decode cX8_places 65 = .ok (.iaload, 1) := by decide +kernel
theorem dX8_places_66 : decode cX8_places 66 = .ok (.iconst 1, 1) := by decide +kernel
theorem dX8_places_67 : decode cX8_places 67 = .ok (.iadd, 1) := by decide +kernel
theorem dX8_places_68 : decode cX8_places 68 = .ok (.iastore, 1) := by decide +kernel
theorem dX8_places_69 : decode cX8_places 69 = .ok (.goto (-27), 3) := by decide +kernel
theorem dX8_places_72 : decode cX8_places 72 = .ok (.iinc 5 1, 3) := by decide +kernel
theorem dX8_places_75 : decode cX8_places 75 = .ok (.goto (-56), 3) := by decide +kernel
theorem dX8_places_78 : decode cX8_places 78 = .ok (.aload 4, 2) := by decide +kernel
theorem dX8_places_80 : decode cX8_places 80 = .ok (.areturn, 1) := by decide +kernel
theorem dX8_joined_0 : decode cX8_joined 0 = .ok (.new 86, 3) := by decide +kernel
theorem dX8_joined_3 : decode cX8_joined 3 = .ok (.dup, 1) := by decide +kernel
theorem dX8_joined_4 : decode cX8_joined 4 = .ok (.invokespecial 88, 3) := by decide +kernel
theorem dX8_joined_7 : decode cX8_joined 7 = .ok (.astore_n 2, 1) := by decide +kernel
theorem dX8_joined_8 : decode cX8_joined 8 = .ok (.iconst 0, 1) := by decide +kernel
theorem dX8_joined_9 : decode cX8_joined 9 = .ok (.istore_n 3, 1) := by decide +kernel
theorem dX8_joined_10 : decode cX8_joined 10 = .ok (.iload_n 3, 1) := by decide +kernel
theorem dX8_joined_11 : decode cX8_joined 11 = .ok (.iload_n 1, 1) := by decide +kernel
theorem dX8_joined_12 : decode cX8_joined 12 = .ok (.if_icmp .gt 17, 3) := by decide +kernel
theorem dX8_joined_15 : decode cX8_joined 15 = .ok (.aload_n 2, 1) := by decide +kernel
theorem dX8_joined_16 : decode cX8_joined 16 = .ok (.aload_n 0, 1) := by decide +kernel
theorem dX8_joined_17 : decode cX8_joined 17 = .ok (.iload_n 3, 1) := by decide +kernel
theorem dX8_joined_18 : decode cX8_joined 18 = .ok (.iaload, 1) := by decide +kernel
theorem dX8_joined_19 : decode cX8_joined 19 = .ok (.invokevirtual 204, 3) := by decide +kernel
theorem dX8_joined_22 : decode cX8_joined 22 = .ok (.pop, 1) := by decide +kernel
theorem dX8_joined_23 : decode cX8_joined 23 = .ok (.iinc 3 1, 3) := by decide +kernel
theorem dX8_joined_26 : decode cX8_joined 26 = .ok (.goto (-16), 3) := by decide +kernel
theorem dX8_joined_29 : decode cX8_joined 29 = .ok (.aload_n 2, 1) := by decide +kernel
theorem dX8_joined_30 : decode cX8_joined 30 = .ok (.invokevirtual 113, 3) := by decide +kernel
theorem dX8_joined_33 : decode cX8_joined 33 = .ok (.areturn, 1) := by decide +kernel
theorem dX8_decimals_0 : decode cX8_decimals 0 = .ok (.aload_n 0, 1) := by decide +kernel
theorem dX8_decimals_1 : decode cX8_decimals 1 = .ok (.iload_n 1, 1) := by decide +kernel
theorem dX8_decimals_2 : decode cX8_decimals 2 = .ok (.invokestatic 145, 3) := by decide +kernel
theorem dX8_decimals_5 : decode cX8_decimals 5 = .ok (.iconst 1, 1) := by decide +kernel
theorem dX8_decimals_6 : decode cX8_decimals 6 = .ok (.invokevirtual 149, 3) := by decide +kernel
theorem dX8_decimals_9 : decode cX8_decimals 9 = .ok (.ifCond .ne 26, 3) := by decide +kernel
theorem dX8_decimals_12 : decode cX8_decimals 12 = .ok (.aload_n 0, 1) := by decide +kernel
theorem dX8_decimals_13 : decode cX8_decimals 13 = .ok (.iload_n 2, 1) := by decide +kernel
theorem dX8_decimals_14 : decode cX8_decimals 14 = .ok (.iconst 0, 1) := by decide +kernel
theorem dX8_decimals_15 : decode cX8_decimals 15 = .ok (.bipush 16, 2) := by decide +kernel
theorem dX8_decimals_17 : decode cX8_decimals 17 = .ok (.invokestatic 49, 3) := by decide +kernel
theorem dX8_decimals_20 : decode cX8_decimals 20 = .ok (.ifCond .ne 7, 3) := by decide +kernel
theorem dX8_decimals_23 : decode cX8_decimals 23 = .ok (.iconst 1, 1) := by decide +kernel
theorem dX8_decimals_24 : decode cX8_decimals 24 = .ok (.goto 4, 3) := by decide +kernel
theorem dX8_decimals_27 : decode cX8_decimals 27 = .ok (.iconst 0, 1) := by decide +kernel
theorem dX8_decimals_28 : decode cX8_decimals 28 = .ok (.iconst 2, 1) := by decide +kernel
theorem dX8_decimals_29 : decode cX8_decimals 29 = .ok (.invokevirtual 45, 3) := by decide +kernel
theorem dX8_decimals_32 : decode cX8_decimals 32 = .ok (.ifCond .eq 8, 3) := by decide +kernel
theorem dX8_decimals_35 : decode cX8_decimals 35 = .ok (.ldc 165, 2) := by decide +kernel
theorem dX8_decimals_37 : decode cX8_decimals 37 = .ok (.goto 12, 3) := by decide +kernel
theorem dX8_decimals_40 : decode cX8_decimals 40 = .ok (.aload_n 0, 1) := by decide +kernel
theorem dX8_decimals_41 : decode cX8_decimals 41 = .ok (.iload_n 1, 1) := by decide +kernel
theorem dX8_decimals_42 : decode cX8_decimals 42 = .ok (.invokevirtual 207, 3) := by decide +kernel
theorem dX8_decimals_45 : decode cX8_decimals 45 = .ok (.iload_n 2, 1) := by decide +kernel
theorem dX8_decimals_46 : decode cX8_decimals 46 = .ok (.invokestatic 210, 3) := by decide +kernel
theorem dX8_decimals_49 : decode cX8_decimals 49 = .ok (.areturn, 1) := by decide +kernel
theorem dX8_rootPlaces_0 : decode cX8_rootPlaces 0 = .ok (.bipush 17, 2) := by decide +kernel
theorem dX8_rootPlaces_2 : decode cX8_rootPlaces 2 = .ok (.newarray .int, 2) := by decide +kernel
theorem dX8_rootPlaces_4 : decode cX8_rootPlaces 4 = .ok (.astore_n 1, 1) := by decide +kernel
theorem dX8_rootPlaces_5 : decode cX8_rootPlaces 5 = .ok (.lconst 0, 1) := by decide +kernel
theorem dX8_rootPlaces_6 : decode cX8_rootPlaces 6 = .ok (.lstore_n 2, 1) := by decide +kernel
theorem dX8_rootPlaces_7 : decode cX8_rootPlaces 7 = .ok (.iload_n 0, 1) := by decide +kernel
theorem dX8_rootPlaces_8 : decode cX8_rootPlaces 8 = .ok (.i2l, 1) := by decide +kernel
theorem dX8_rootPlaces_9 : decode cX8_rootPlaces 9 = .ok (.lstore 4, 2) := by decide +kernel
theorem dX8_rootPlaces_11 : decode cX8_rootPlaces 11 = .ok (.iconst 0, 1) := by decide +kernel
theorem dX8_rootPlaces_12 : decode cX8_rootPlaces 12 = .ok (.istore 6, 2) := by decide +kernel
theorem dX8_rootPlaces_14 : decode cX8_rootPlaces 14 = .ok (.iload 6, 2) := by decide +kernel
theorem dX8_rootPlaces_16 : decode cX8_rootPlaces 16 = .ok (.bipush 17, 2) := by decide +kernel
theorem dX8_rootPlaces_18 : decode cX8_rootPlaces 18 = .ok (.if_icmp .ge 79, 3) := by decide +kernel
theorem dX8_rootPlaces_21 : decode cX8_rootPlaces 21 = .ok (.iconst 0, 1) := by decide +kernel
theorem dX8_rootPlaces_22 : decode cX8_rootPlaces 22 = .ok (.istore 7, 2) := by decide +kernel
theorem dX8_rootPlaces_24 : decode cX8_rootPlaces 24 = .ok (.ldc2_w 213, 3) := by decide +kernel
theorem dX8_rootPlaces_27 : decode cX8_rootPlaces 27 = .ok (.lload_n 2, 1) := by decide +kernel
theorem dX8_rootPlaces_28 : decode cX8_rootPlaces 28 = .ok (.lmul, 1) := by decide +kernel
theorem dX8_rootPlaces_29 : decode cX8_rootPlaces 29 = .ok (.iload 7, 2) := by decide +kernel
theorem dX8_rootPlaces_31 : decode cX8_rootPlaces 31 = .ok (.i2l, 1) := by decide +kernel
theorem dX8_rootPlaces_32 : decode cX8_rootPlaces 32 = .ok (.ladd, 1) := by decide +kernel
theorem dX8_rootPlaces_33 : decode cX8_rootPlaces 33 = .ok (.lconst 1, 1) := by decide +kernel
theorem dX8_rootPlaces_34 : decode cX8_rootPlaces 34 = .ok (.ladd, 1) := by decide +kernel
theorem dX8_rootPlaces_35 : decode cX8_rootPlaces 35 = .ok (.iload 7, 2) := by decide +kernel
theorem dX8_rootPlaces_37 : decode cX8_rootPlaces 37 = .ok (.iconst 1, 1) := by decide +kernel
theorem dX8_rootPlaces_38 : decode cX8_rootPlaces 38 = .ok (.iadd, 1) := by decide +kernel
theorem dX8_rootPlaces_39 : decode cX8_rootPlaces 39 = .ok (.i2l, 1) := by decide +kernel
theorem dX8_rootPlaces_40 : decode cX8_rootPlaces 40 = .ok (.lmul, 1) := by decide +kernel
theorem dX8_rootPlaces_41 : decode cX8_rootPlaces 41 = .ok (.lload 4, 2) := by decide +kernel
theorem dX8_rootPlaces_43 : decode cX8_rootPlaces 43 = .ok (.lcmp, 1) := by decide +kernel
theorem dX8_rootPlaces_44 : decode cX8_rootPlaces 44 = .ok (.ifCond .gt 9, 3) := by decide +kernel
theorem dX8_rootPlaces_47 : decode cX8_rootPlaces 47 = .ok (.iinc 7 1, 3) := by decide +kernel
theorem dX8_rootPlaces_50 : decode cX8_rootPlaces 50 = .ok (.goto (-26), 3) := by decide +kernel
theorem dX8_rootPlaces_53 : decode cX8_rootPlaces 53 = .ok (.ldc2_w 215, 3) := by decide +kernel
theorem dX8_rootPlaces_56 : decode cX8_rootPlaces 56 = .ok (.lload 4, 2) := by decide +kernel
theorem dX8_rootPlaces_58 : decode cX8_rootPlaces 58 = .ok (.ldc2_w 213, 3) := by decide +kernel
theorem dX8_rootPlaces_61 : decode cX8_rootPlaces 61 = .ok (.lload_n 2, 1) := by decide +kernel
theorem dX8_rootPlaces_62 : decode cX8_rootPlaces 62 = .ok (.lmul, 1) := by decide +kernel
theorem dX8_rootPlaces_63 : decode cX8_rootPlaces 63 = .ok (.iload 7, 2) := by decide +kernel
theorem dX8_rootPlaces_65 : decode cX8_rootPlaces 65 = .ok (.i2l, 1) := by decide +kernel
theorem dX8_rootPlaces_66 : decode cX8_rootPlaces 66 = .ok (.ladd, 1) := by decide +kernel
theorem dX8_rootPlaces_67 : decode cX8_rootPlaces 67 = .ok (.iload 7, 2) := by decide +kernel
theorem dX8_rootPlaces_69 : decode cX8_rootPlaces 69 = .ok (.i2l, 1) := by decide +kernel
theorem dX8_rootPlaces_70 : decode cX8_rootPlaces 70 = .ok (.lmul, 1) := by decide +kernel
theorem dX8_rootPlaces_71 : decode cX8_rootPlaces 71 = .ok (.lsub, 1) := by decide +kernel
theorem dX8_rootPlaces_72 : decode cX8_rootPlaces 72 = .ok (.lmul, 1) := by decide +kernel
theorem dX8_rootPlaces_73 : decode cX8_rootPlaces 73 = .ok (.lstore 4, 2) := by decide +kernel
theorem dX8_rootPlaces_75 : decode cX8_rootPlaces 75 = .ok (.ldc2_w 202, 3) := by decide +kernel
theorem dX8_rootPlaces_78 : decode cX8_rootPlaces 78 = .ok (.lload_n 2, 1) := by decide +kernel
theorem dX8_rootPlaces_79 : decode cX8_rootPlaces 79 = .ok (.lmul, 1) := by decide +kernel
theorem dX8_rootPlaces_80 : decode cX8_rootPlaces 80 = .ok (.iload 7, 2) := by decide +kernel
theorem dX8_rootPlaces_82 : decode cX8_rootPlaces 82 = .ok (.i2l, 1) := by decide +kernel
theorem dX8_rootPlaces_83 : decode cX8_rootPlaces 83 = .ok (.ladd, 1) := by decide +kernel
theorem dX8_rootPlaces_84 : decode cX8_rootPlaces 84 = .ok (.lstore_n 2, 1) := by decide +kernel
theorem dX8_rootPlaces_85 : decode cX8_rootPlaces 85 = .ok (.aload_n 1, 1) := by decide +kernel
theorem dX8_rootPlaces_86 : decode cX8_rootPlaces 86 = .ok (.iload 6, 2) := by decide +kernel
theorem dX8_rootPlaces_88 : decode cX8_rootPlaces 88 = .ok (.iload 7, 2) := by decide +kernel
theorem dX8_rootPlaces_90 : decode cX8_rootPlaces 90 = .ok (.iastore, 1) := by decide +kernel
theorem dX8_rootPlaces_91 : decode cX8_rootPlaces 91 = .ok (.iinc 6 1, 3) := by decide +kernel
theorem dX8_rootPlaces_94 : decode cX8_rootPlaces 94 = .ok (.goto (-80), 3) := by decide +kernel
theorem dX8_rootPlaces_97 : decode cX8_rootPlaces 97 = .ok (.aload_n 1, 1) := by decide +kernel
theorem dX8_rootPlaces_98 : decode cX8_rootPlaces 98 = .ok (.areturn, 1) := by decide +kernel
theorem dX8_alike_0 : decode cX8_alike 0 = .ok (.aload_n 0, 1) := by decide +kernel
theorem dX8_alike_1 : decode cX8_alike 1 = .ok (.iload_n 1, 1) := by decide +kernel
theorem dX8_alike_2 : decode cX8_alike 2 = .ok (.invokestatic 145, 3) := by decide +kernel
theorem dX8_alike_5 : decode cX8_alike 5 = .ok (.iconst 1, 1) := by decide +kernel
theorem dX8_alike_6 : decode cX8_alike 6 = .ok (.invokevirtual 149, 3) := by decide +kernel
theorem dX8_alike_9 : decode cX8_alike 9 = .ok (.ifCond .eq 5, 3) := by decide +kernel
theorem dX8_alike_12 : decode cX8_alike 12 = .ok (.iconst 0, 1) := by decide +kernel
theorem dX8_alike_13 : decode cX8_alike 13 = .ok (.ireturn, 1) := by decide +kernel
theorem dX8_alike_14 : decode cX8_alike 14 = .ok (.aload_n 0, 1) := by decide +kernel
theorem dX8_alike_15 : decode cX8_alike 15 = .ok (.iload_n 1, 1) := by decide +kernel
theorem dX8_alike_16 : decode cX8_alike 16 = .ok (.invokevirtual 207, 3) := by decide +kernel
theorem dX8_alike_19 : decode cX8_alike 19 = .ok (.astore_n 2, 1) := by decide +kernel
theorem dX8_alike_20 : decode cX8_alike 20 = .ok (.aload_n 0, 1) := by decide +kernel
theorem dX8_alike_21 : decode cX8_alike 21 = .ok (.getfield 9, 3) := by decide +kernel
theorem dX8_alike_24 : decode cX8_alike 24 = .ok (.iload_n 1, 1) := by decide +kernel
theorem dX8_alike_25 : decode cX8_alike 25 = .ok (.iaload, 1) := by decide +kernel
theorem dX8_alike_26 : decode cX8_alike 26 = .ok (.invokestatic 217, 3) := by decide +kernel
theorem dX8_alike_29 : decode cX8_alike 29 = .ok (.astore_n 3, 1) := by decide +kernel
theorem dX8_alike_30 : decode cX8_alike 30 = .ok (.iconst 0, 1) := by decide +kernel
theorem dX8_alike_31 : decode cX8_alike 31 = .ok (.istore 4, 2) := by decide +kernel
theorem dX8_alike_33 : decode cX8_alike 33 = .ok (.iload 4, 2) := by decide +kernel
theorem dX8_alike_35 : decode cX8_alike 35 = .ok (.bipush 17, 2) := by decide +kernel
theorem dX8_alike_37 : decode cX8_alike 37 = .ok (.if_icmp .ge 20, 3) := by decide +kernel
theorem dX8_alike_40 : decode cX8_alike 40 = .ok (.aload_n 2, 1) := by decide +kernel
theorem dX8_alike_41 : decode cX8_alike 41 = .ok (.iload 4, 2) := by decide +kernel
theorem dX8_alike_43 : decode cX8_alike 43 = .ok (.iaload, 1) := by decide +kernel
theorem dX8_alike_44 : decode cX8_alike 44 = .ok (.aload_n 3, 1) := by decide +kernel
theorem dX8_alike_45 : decode cX8_alike 45 = .ok (.iload 4, 2) := by decide +kernel
theorem dX8_alike_47 : decode cX8_alike 47 = .ok (.iaload, 1) := by decide +kernel
theorem dX8_alike_48 : decode cX8_alike 48 = .ok (.if_icmp .ne 9, 3) := by decide +kernel
theorem dX8_alike_51 : decode cX8_alike 51 = .ok (.iinc 4 1, 3) := by decide +kernel
theorem dX8_alike_54 : decode cX8_alike 54 = .ok (.goto (-21), 3) := by decide +kernel
theorem dX8_alike_57 : decode cX8_alike 57 = .ok (.iload 4, 2) := by decide +kernel
theorem dX8_alike_59 : decode cX8_alike 59 = .ok (.iconst 1, 1) := by decide +kernel
theorem dX8_alike_60 : decode cX8_alike 60 = .ok (.isub, 1) := by decide +kernel
theorem dX8_alike_61 : decode cX8_alike 61 = .ok (.ireturn, 1) := by decide +kernel
theorem dX8_rootText_0 : decode cX8_rootText 0 = .ok (.aload_n 0, 1) := by decide +kernel
theorem dX8_rootText_1 : decode cX8_rootText 1 = .ok (.iload_n 1, 1) := by decide +kernel
theorem dX8_rootText_2 : decode cX8_rootText 2 = .ok (.iconst 1, 1) := by decide +kernel
theorem dX8_rootText_3 : decode cX8_rootText 3 = .ok (.bipush 99, 2) := by decide +kernel
theorem dX8_rootText_5 : decode cX8_rootText 5 = .ok (.invokestatic 49, 3) := by decide +kernel
theorem dX8_rootText_8 : decode cX8_rootText 8 = .ok (.ifCond .eq 13, 3) := by decide +kernel
theorem dX8_rootText_11 : decode cX8_rootText 11 = .ok (.iload_n 2, 1) := by decide +kernel
theorem dX8_rootText_12 : decode cX8_rootText 12 = .ok (.iconst 0, 1) := by decide +kernel
theorem dX8_rootText_13 : decode cX8_rootText 13 = .ok (.bipush 16, 2) := by decide +kernel
theorem dX8_rootText_15 : decode cX8_rootText 15 = .ok (.invokestatic 49, 3) := by decide +kernel
theorem dX8_rootText_18 : decode cX8_rootText 18 = .ok (.ifCond .ne 7, 3) := by decide +kernel
theorem dX8_rootText_21 : decode cX8_rootText 21 = .ok (.iconst 1, 1) := by decide +kernel
theorem dX8_rootText_22 : decode cX8_rootText 22 = .ok (.goto 4, 3) := by decide +kernel
theorem dX8_rootText_25 : decode cX8_rootText 25 = .ok (.iconst 0, 1) := by decide +kernel
theorem dX8_rootText_26 : decode cX8_rootText 26 = .ok (.iconst 1, 1) := by decide +kernel
theorem dX8_rootText_27 : decode cX8_rootText 27 = .ok (.invokevirtual 149, 3) := by decide +kernel
theorem dX8_rootText_30 : decode cX8_rootText 30 = .ok (.ifCond .eq 8, 3) := by decide +kernel
theorem dX8_rootText_33 : decode cX8_rootText 33 = .ok (.ldc 165, 2) := by decide +kernel
theorem dX8_rootText_35 : decode cX8_rootText 35 = .ok (.goto 11, 3) := by decide +kernel
theorem dX8_rootText_38 : decode cX8_rootText 38 = .ok (.iload_n 1, 1) := by decide +kernel
theorem dX8_rootText_39 : decode cX8_rootText 39 = .ok (.invokestatic 217, 3) := by decide +kernel
theorem dX8_rootText_42 : decode cX8_rootText 42 = .ok (.iload_n 2, 1) := by decide +kernel
theorem dX8_rootText_43 : decode cX8_rootText 43 = .ok (.invokestatic 210, 3) := by decide +kernel
theorem dX8_rootText_46 : decode cX8_rootText 46 = .ok (.areturn, 1) := by decide +kernel
theorem dX8_period_0 : decode cX8_period 0 = .ok (.aload_n 0, 1) := by decide +kernel
theorem dX8_period_1 : decode cX8_period 1 = .ok (.iload_n 1, 1) := by decide +kernel
theorem dX8_period_2 : decode cX8_period 2 = .ok (.invokestatic 152, 3) := by decide +kernel
theorem dX8_period_5 : decode cX8_period 5 = .ok (.iconst 1, 1) := by decide +kernel
theorem dX8_period_6 : decode cX8_period 6 = .ok (.invokevirtual 149, 3) := by decide +kernel
theorem dX8_period_9 : decode cX8_period 9 = .ok (.ifCond .eq 7, 3) := by decide +kernel
theorem dX8_period_12 : decode cX8_period 12 = .ok (.iconst 0, 1) := by decide +kernel
theorem dX8_period_13 : decode cX8_period 13 = .ok (.goto 7, 3) := by decide +kernel
theorem dX8_period_16 : decode cX8_period 16 = .ok (.iload_n 1, 1) := by decide +kernel
theorem dX8_period_17 : decode cX8_period 17 = .ok (.invokestatic 142, 3) := by decide +kernel
theorem dX8_period_20 : decode cX8_period 20 = .ok (.ireturn, 1) := by decide +kernel
theorem dX8_periodText_0 : decode cX8_periodText 0 = .ok (.aload_n 0, 1) := by decide +kernel
theorem dX8_periodText_1 : decode cX8_periodText 1 = .ok (.iload_n 1, 1) := by decide +kernel
theorem dX8_periodText_2 : decode cX8_periodText 2 = .ok (.invokestatic 152, 3) := by decide +kernel
theorem dX8_periodText_5 : decode cX8_periodText 5 = .ok (.iconst 1, 1) := by decide +kernel
theorem dX8_periodText_6 : decode cX8_periodText 6 = .ok (.invokevirtual 149, 3) := by decide +kernel
theorem dX8_periodText_9 : decode cX8_periodText 9 = .ok (.ifCond .eq 6, 3) := by decide +kernel
theorem dX8_periodText_12 : decode cX8_periodText 12 = .ok (.ldc 165, 2) := by decide +kernel
theorem dX8_periodText_14 : decode cX8_periodText 14 = .ok (.areturn, 1) := by decide +kernel
theorem dX8_periodText_15 : decode cX8_periodText 15 = .ok (.iload_n 1, 1) := by decide +kernel
theorem dX8_periodText_16 : decode cX8_periodText 16 = .ok (.invokestatic 142, 3) := by decide +kernel
theorem dX8_periodText_19 : decode cX8_periodText 19 = .ok (.istore_n 2, 1) := by decide +kernel
theorem dX8_periodText_20 : decode cX8_periodText 20 = .ok (.new 86, 3) := by decide +kernel
theorem dX8_periodText_23 : decode cX8_periodText 23 = .ok (.dup, 1) := by decide +kernel
theorem dX8_periodText_24 : decode cX8_periodText 24 = .ok (.invokespecial 88, 3) := by decide +kernel
theorem dX8_periodText_27 : decode cX8_periodText 27 = .ok (.astore_n 3, 1) := by decide +kernel
theorem dX8_periodText_28 : decode cX8_periodText 28 = .ok (.iconst 0, 1) := by decide +kernel
theorem dX8_periodText_29 : decode cX8_periodText 29 = .ok (.istore 4, 2) := by decide +kernel
theorem dX8_periodText_31 : decode cX8_periodText 31 = .ok (.iload 4, 2) := by decide +kernel
theorem dX8_periodText_33 : decode cX8_periodText 33 = .ok (.iload_n 2, 1) := by decide +kernel
theorem dX8_periodText_34 : decode cX8_periodText 34 = .ok (.if_icmp .gt 37, 3) := by decide +kernel
theorem dX8_periodText_37 : decode cX8_periodText 37 = .ok (.aload_n 3, 1) := by decide +kernel
theorem dX8_periodText_38 : decode cX8_periodText 38 = .ok (.iload 4, 2) := by decide +kernel
theorem dX8_periodText_40 : decode cX8_periodText 40 = .ok (.ifCond .ne 8, 3) := by decide +kernel
theorem dX8_periodText_43 : decode cX8_periodText 43 = .ok (.ldc 165, 2) := by decide +kernel
theorem dX8_periodText_45 : decode cX8_periodText 45 = .ok (.goto 5, 3) := by decide +kernel
theorem dX8_periodText_48 : decode cX8_periodText 48 = .ok (.ldc 220, 2) := by decide +kernel
theorem dX8_periodText_50 : decode cX8_periodText 50 = .ok (.invokevirtual 222, 3) := by decide +kernel
theorem dX8_periodText_53 : decode cX8_periodText 53 = .ok (.iload_n 1, 1) := by decide +kernel
theorem dX8_periodText_54 : decode cX8_periodText 54 = .ok (.iload 4, 2) := by decide +kernel
theorem dX8_periodText_56 : decode cX8_periodText 56 = .ok (.invokestatic 138, 3) := by decide +kernel
theorem dX8_periodText_59 : decode cX8_periodText 59 = .ok (.iconst 2, 1) := by decide +kernel
theorem dX8_periodText_60 : decode cX8_periodText 60 = .ok (.iaload, 1) := by decide +kernel
theorem dX8_periodText_61 : decode cX8_periodText 61 = .ok (.invokevirtual 204, 3) := by decide +kernel
theorem dX8_periodText_64 : decode cX8_periodText 64 = .ok (.pop, 1) := by decide +kernel
theorem dX8_periodText_65 : decode cX8_periodText 65 = .ok (.iinc 4 1, 3) := by decide +kernel
theorem dX8_periodText_68 : decode cX8_periodText 68 = .ok (.goto (-37), 3) := by decide +kernel
theorem dX8_periodText_71 : decode cX8_periodText 71 = .ok (.aload_n 3, 1) := by decide +kernel
theorem dX8_periodText_72 : decode cX8_periodText 72 = .ok (.invokevirtual 113, 3) := by decide +kernel
theorem dX8_periodText_75 : decode cX8_periodText 75 = .ok (.areturn, 1) := by decide +kernel
theorem dX8_solution_0 : decode cX8_solution 0 = .ok (.aload_n 0, 1) := by decide +kernel
theorem dX8_solution_1 : decode cX8_solution 1 = .ok (.iload_n 1, 1) := by decide +kernel
theorem dX8_solution_2 : decode cX8_solution 2 = .ok (.invokestatic 152, 3) := by decide +kernel
theorem dX8_solution_5 : decode cX8_solution 5 = .ok (.iconst 1, 1) := by decide +kernel
theorem dX8_solution_6 : decode cX8_solution 6 = .ok (.invokevirtual 149, 3) := by decide +kernel
theorem dX8_solution_9 : decode cX8_solution 9 = .ok (.ifCond .eq 8, 3) := by decide +kernel
theorem dX8_solution_12 : decode cX8_solution 12 = .ok (.ldc 165, 2) := by decide +kernel
theorem dX8_solution_14 : decode cX8_solution 14 = .ok (.goto 22, 3) := by decide +kernel
theorem dX8_solution_17 : decode cX8_solution 17 = .ok (.iload_n 1, 1) := by decide +kernel
theorem dX8_solution_18 : decode cX8_solution 18 = .ok (.invokestatic 225, 3) := by decide +kernel
theorem dX8_solution_21 : decode cX8_solution 21 = .ok (.iload_n 2, 1) := by decide +kernel
theorem dX8_solution_22 : decode cX8_solution 22 = .ok (.ifCond .eq 7, 3) := by decide +kernel
theorem dX8_solution_25 : decode cX8_solution 25 = .ok (.iconst 0, 1) := by decide +kernel
theorem dX8_solution_26 : decode cX8_solution 26 = .ok (.goto 4, 3) := by decide +kernel
theorem dX8_solution_29 : decode cX8_solution 29 = .ok (.iconst 1, 1) := by decide +kernel
theorem dX8_solution_30 : decode cX8_solution 30 = .ok (.aaload, 1) := by decide +kernel
theorem dX8_solution_31 : decode cX8_solution 31 = .ok (.bipush 10, 2) := by decide +kernel
theorem dX8_solution_33 : decode cX8_solution 33 = .ok (.invokestatic 171, 3) := by decide +kernel
theorem dX8_solution_36 : decode cX8_solution 36 = .ok (.areturn, 1) := by decide +kernel
theorem dX8_minus__0 : decode cX8_minus_ 0 = .ok (.aload_n 0, 1) := by decide +kernel
theorem dX8_minus__1 : decode cX8_minus_ 1 = .ok (.iload_n 1, 1) := by decide +kernel
theorem dX8_minus__2 : decode cX8_minus_ 2 = .ok (.invokestatic 152, 3) := by decide +kernel
theorem dX8_minus__5 : decode cX8_minus_ 5 = .ok (.iconst 1, 1) := by decide +kernel
theorem dX8_minus__6 : decode cX8_minus_ 6 = .ok (.invokevirtual 149, 3) := by decide +kernel
theorem dX8_minus__9 : decode cX8_minus_ 9 = .ok (.ifCond .ne 12, 3) := by decide +kernel
theorem dX8_minus__12 : decode cX8_minus_ 12 = .ok (.iload_n 1, 1) := by decide +kernel
theorem dX8_minus__13 : decode cX8_minus_ 13 = .ok (.invokestatic 142, 3) := by decide +kernel
theorem dX8_minus__16 : decode cX8_minus_ 16 = .ok (.iconst 2, 1) := by decide +kernel
theorem dX8_minus__17 : decode cX8_minus_ 17 = .ok (.irem, 1) := by decide +kernel
theorem dX8_minus__18 : decode cX8_minus_ 18 = .ok (.ifCond .ne 6, 3) := by decide +kernel
theorem dX8_minus__21 : decode cX8_minus_ 21 = .ok (.ldc 165, 2) := by decide +kernel
theorem dX8_minus__23 : decode cX8_minus_ 23 = .ok (.areturn, 1) := by decide +kernel
theorem dX8_minus__24 : decode cX8_minus_ 24 = .ok (.iload_n 1, 1) := by decide +kernel
theorem dX8_minus__25 : decode cX8_minus_ 25 = .ok (.iload_n 1, 1) := by decide +kernel
theorem dX8_minus__26 : decode cX8_minus_ 26 = .ok (.invokestatic 142, 3) := by decide +kernel
theorem dX8_minus__29 : decode cX8_minus_ 29 = .ok (.iconst 1, 1) := by decide +kernel
theorem dX8_minus__30 : decode cX8_minus_ 30 = .ok (.isub, 1) := by decide +kernel
theorem dX8_minus__31 : decode cX8_minus_ 31 = .ok (.invokestatic 134, 3) := by decide +kernel
theorem dX8_minus__34 : decode cX8_minus_ 34 = .ok (.iload_n 2, 1) := by decide +kernel
theorem dX8_minus__35 : decode cX8_minus_ 35 = .ok (.ifCond .eq 7, 3) := by decide +kernel
theorem dX8_minus__38 : decode cX8_minus_ 38 = .ok (.iconst 0, 1) := by decide +kernel
theorem dX8_minus__39 : decode cX8_minus_ 39 = .ok (.goto 4, 3) := by decide +kernel
theorem dX8_minus__42 : decode cX8_minus_ 42 = .ok (.iconst 1, 1) := by decide +kernel
theorem dX8_minus__43 : decode cX8_minus_ 43 = .ok (.aaload, 1) := by decide +kernel
theorem dX8_minus__44 : decode cX8_minus_ 44 = .ok (.bipush 10, 2) := by decide +kernel
theorem dX8_minus__46 : decode cX8_minus_ 46 = .ok (.invokestatic 171, 3) := by decide +kernel
theorem dX8_minus__49 : decode cX8_minus_ 49 = .ok (.areturn, 1) := by decide +kernel
theorem dX8_middle_0 : decode cX8_middle 0 = .ok (.aload_n 0, 1) := by decide +kernel
theorem dX8_middle_1 : decode cX8_middle 1 = .ok (.iload_n 1, 1) := by decide +kernel
theorem dX8_middle_2 : decode cX8_middle 2 = .ok (.invokestatic 152, 3) := by decide +kernel
theorem dX8_middle_5 : decode cX8_middle 5 = .ok (.iconst 1, 1) := by decide +kernel
theorem dX8_middle_6 : decode cX8_middle 6 = .ok (.invokevirtual 149, 3) := by decide +kernel
theorem dX8_middle_9 : decode cX8_middle 9 = .ok (.ifCond .ne 12, 3) := by decide +kernel
theorem dX8_middle_12 : decode cX8_middle 12 = .ok (.iload_n 1, 1) := by decide +kernel
theorem dX8_middle_13 : decode cX8_middle 13 = .ok (.invokestatic 142, 3) := by decide +kernel
theorem dX8_middle_16 : decode cX8_middle 16 = .ok (.iconst 2, 1) := by decide +kernel
theorem dX8_middle_17 : decode cX8_middle 17 = .ok (.irem, 1) := by decide +kernel
theorem dX8_middle_18 : decode cX8_middle 18 = .ok (.ifCond .ne 6, 3) := by decide +kernel
theorem dX8_middle_21 : decode cX8_middle 21 = .ok (.ldc 165, 2) := by decide +kernel
theorem dX8_middle_23 : decode cX8_middle 23 = .ok (.areturn, 1) := by decide +kernel
theorem dX8_middle_24 : decode cX8_middle 24 = .ok (.iload_n 1, 1) := by decide +kernel
theorem dX8_middle_25 : decode cX8_middle 25 = .ok (.iload_n 1, 1) := by decide +kernel
theorem dX8_middle_26 : decode cX8_middle 26 = .ok (.invokestatic 142, 3) := by decide +kernel
theorem dX8_middle_29 : decode cX8_middle 29 = .ok (.iconst 1, 1) := by decide +kernel
theorem dX8_middle_30 : decode cX8_middle 30 = .ok (.iadd, 1) := by decide +kernel
theorem dX8_middle_31 : decode cX8_middle 31 = .ok (.iconst 2, 1) := by decide +kernel
theorem dX8_middle_32 : decode cX8_middle 32 = .ok (.idiv, 1) := by decide +kernel
theorem dX8_middle_33 : decode cX8_middle 33 = .ok (.invokestatic 138, 3) := by decide +kernel
theorem dX8_middle_36 : decode cX8_middle 36 = .ok (.astore_n 2, 1) := by decide +kernel
theorem dX8_middle_37 : decode cX8_middle 37 = .ok (.new 86, 3) := by decide +kernel
theorem dX8_middle_40 : decode cX8_middle 40 = .ok (.dup, 1) := by decide +kernel
theorem dX8_middle_41 : decode cX8_middle 41 = .ok (.invokespecial 88, 3) := by decide +kernel
theorem dX8_middle_44 : decode cX8_middle 44 = .ok (.aload_n 2, 1) := by decide +kernel
theorem dX8_middle_45 : decode cX8_middle 45 = .ok (.iconst 0, 1) := by decide +kernel
theorem dX8_middle_46 : decode cX8_middle 46 = .ok (.iaload, 1) := by decide +kernel
theorem dX8_middle_47 : decode cX8_middle 47 = .ok (.invokevirtual 204, 3) := by decide +kernel
theorem dX8_middle_50 : decode cX8_middle 50 = .ok (.ldc 220, 2) := by decide +kernel
theorem dX8_middle_52 : decode cX8_middle 52 = .ok (.invokevirtual 222, 3) := by decide +kernel
theorem dX8_middle_55 : decode cX8_middle 55 = .ok (.aload_n 2, 1) := by decide +kernel
theorem dX8_middle_56 : decode cX8_middle 56 = .ok (.iconst 1, 1) := by decide +kernel
theorem dX8_middle_57 : decode cX8_middle 57 = .ok (.iaload, 1) := by decide +kernel
theorem dX8_middle_58 : decode cX8_middle 58 = .ok (.invokevirtual 204, 3) := by decide +kernel
theorem dX8_middle_61 : decode cX8_middle 61 = .ok (.invokevirtual 113, 3) := by decide +kernel
theorem dX8_middle_64 : decode cX8_middle 64 = .ok (.areturn, 1) := by decide +kernel
theorem dX8_areSame_0 : decode cX8_areSame 0 = .ok (.iload_n 0, 1) := by decide +kernel
theorem dX8_areSame_1 : decode cX8_areSame 1 = .ok (.iload_n 3, 1) := by decide +kernel
theorem dX8_areSame_2 : decode cX8_areSame 2 = .ok (.if_icmp .ne 25, 3) := by decide +kernel
theorem dX8_areSame_5 : decode cX8_areSame 5 = .ok (.aload_n 1, 1) := by decide +kernel
theorem dX8_areSame_6 : decode cX8_areSame 6 = .ok (.aload 4, 2) := by decide +kernel
theorem dX8_areSame_8 : decode cX8_areSame 8 = .ok (.invokestatic 199, 3) := by decide +kernel
theorem dX8_areSame_11 : decode cX8_areSame 11 = .ok (.ifCond .ne 16, 3) := by decide +kernel
theorem dX8_areSame_14 : decode cX8_areSame 14 = .ok (.aload_n 2, 1) := by decide +kernel
theorem dX8_areSame_15 : decode cX8_areSame 15 = .ok (.aload 5, 2) := by decide +kernel
theorem dX8_areSame_17 : decode cX8_areSame 17 = .ok (.invokestatic 199, 3) := by decide +kernel
theorem dX8_areSame_20 : decode cX8_areSame 20 = .ok (.ifCond .ne 7, 3) := by decide +kernel
theorem dX8_areSame_23 : decode cX8_areSame 23 = .ok (.iconst 1, 1) := by decide +kernel
theorem dX8_areSame_24 : decode cX8_areSame 24 = .ok (.goto 4, 3) := by decide +kernel
theorem dX8_areSame_27 : decode cX8_areSame 27 = .ok (.iconst 0, 1) := by decide +kernel
theorem dX8_areSame_28 : decode cX8_areSame 28 = .ok (.ireturn, 1) := by decide +kernel
theorem dX8_become_0 : decode cX8_become 0 = .ok (.aload_n 0, 1) := by decide +kernel
theorem dX8_become_1 : decode cX8_become 1 = .ok (.getfield 16, 3) := by decide +kernel
theorem dX8_become_4 : decode cX8_become 4 = .ok (.iload_n 1, 1) := by decide +kernel
theorem dX8_become_5 : decode cX8_become 5 = .ok (.iaload, 1) := by decide +kernel
theorem dX8_become_6 : decode cX8_become 6 = .ok (.aload_n 0, 1) := by decide +kernel
theorem dX8_become_7 : decode cX8_become 7 = .ok (.getfield 24, 3) := by decide +kernel
theorem dX8_become_10 : decode cX8_become 10 = .ok (.iload_n 1, 1) := by decide +kernel
theorem dX8_become_11 : decode cX8_become 11 = .ok (.aaload, 1) := by decide +kernel
theorem dX8_become_12 : decode cX8_become 12 = .ok (.aload_n 0, 1) := by decide +kernel
theorem dX8_become_13 : decode cX8_become 13 = .ok (.getfield 28, 3) := by decide +kernel
theorem dX8_become_16 : decode cX8_become 16 = .ok (.iload_n 1, 1) := by decide +kernel
theorem dX8_become_17 : decode cX8_become 17 = .ok (.aaload, 1) := by decide +kernel
theorem dX8_become_18 : decode cX8_become 18 = .ok (.iload_n 2, 1) := by decide +kernel
theorem dX8_become_19 : decode cX8_become 19 = .ok (.aload_n 3, 1) := by decide +kernel
theorem dX8_become_20 : decode cX8_become 20 = .ok (.aload 4, 2) := by decide +kernel
theorem dX8_become_22 : decode cX8_become 22 = .ok (.invokestatic 228, 3) := by decide +kernel
theorem dX8_become_25 : decode cX8_become 25 = .ok (.istore 5, 2) := by decide +kernel
theorem dX8_become_27 : decode cX8_become 27 = .ok (.aload_n 0, 1) := by decide +kernel
theorem dX8_become_28 : decode cX8_become 28 = .ok (.getfield 16, 3) := by decide +kernel
theorem dX8_become_31 : decode cX8_become 31 = .ok (.iload_n 1, 1) := by decide +kernel
theorem dX8_become_32 : decode cX8_become 32 = .ok (.iload_n 2, 1) := by decide +kernel
theorem dX8_become_33 : decode cX8_become 33 = .ok (.iastore, 1) := by decide +kernel
theorem dX8_become_34 : decode cX8_become 34 = .ok (.aload_n 0, 1) := by decide +kernel
theorem dX8_become_35 : decode cX8_become 35 = .ok (.getfield 24, 3) := by decide +kernel
theorem dX8_become_38 : decode cX8_become 38 = .ok (.iload_n 1, 1) := by decide +kernel
theorem dX8_become_39 : decode cX8_become 39 = .ok (.aload_n 3, 1) := by decide +kernel
theorem dX8_become_40 : decode cX8_become 40 = .ok (.aastore, 1) := by decide +kernel
theorem dX8_become_41 : decode cX8_become 41 = .ok (.aload_n 0, 1) := by decide +kernel
theorem dX8_become_42 : decode cX8_become 42 = .ok (.getfield 28, 3) := by decide +kernel
theorem dX8_become_45 : decode cX8_become 45 = .ok (.iload_n 1, 1) := by decide +kernel
theorem dX8_become_46 : decode cX8_become 46 = .ok (.aload 4, 2) := by decide +kernel
theorem dX8_become_48 : decode cX8_become 48 = .ok (.aastore, 1) := by decide +kernel
theorem dX8_become_49 : decode cX8_become 49 = .ok (.aload_n 0, 1) := by decide +kernel
theorem dX8_become_50 : decode cX8_become 50 = .ok (.iconst 1, 1) := by decide +kernel
theorem dX8_become_51 : decode cX8_become 51 = .ok (.iload 5, 2) := by decide +kernel
theorem dX8_become_53 : decode cX8_become 53 = .ok (.ifCond .eq 7, 3) := by decide +kernel
theorem dX8_become_56 : decode cX8_become 56 = .ok (.iconst 0, 1) := by decide +kernel
theorem dX8_become_57 : decode cX8_become 57 = .ok (.goto 4, 3) := by decide +kernel
theorem dX8_become_60 : decode cX8_become 60 = .ok (.iconst 1, 1) := by decide +kernel
theorem dX8_become_61 : decode cX8_become 61 = .ok (.invokevirtual 155, 3) := by decide +kernel
theorem dX8_become_64 : decode cX8_become 64 = .ok (.ireturn, 1) := by decide +kernel
theorem dX8_put_0 : decode cX8_put 0 = .ok (.aload_n 0, 1) := by decide +kernel
theorem dX8_put_1 : decode cX8_put 1 = .ok (.iload_n 1, 1) := by decide +kernel
theorem dX8_put_2 : decode cX8_put 2 = .ok (.invokestatic 145, 3) := by decide +kernel
theorem dX8_put_5 : decode cX8_put 5 = .ok (.iconst 1, 1) := by decide +kernel
theorem dX8_put_6 : decode cX8_put 6 = .ok (.invokevirtual 149, 3) := by decide +kernel
theorem dX8_put_9 : decode cX8_put 9 = .ok (.ifCond .ne 50, 3) := by decide +kernel
theorem dX8_put_12 : decode cX8_put 12 = .ok (.aload_n 0, 1) := by decide +kernel
theorem dX8_put_13 : decode cX8_put 13 = .ok (.iload_n 2, 1) := by decide +kernel
theorem dX8_put_14 : decode cX8_put 14 = .ok (.invokestatic 152, 3) := by decide +kernel
theorem dX8_put_17 : decode cX8_put 17 = .ok (.ifCond .ne 30, 3) := by decide +kernel
theorem dX8_put_20 : decode cX8_put 20 = .ok (.iload_n 3, 1) := by decide +kernel
theorem dX8_put_21 : decode cX8_put 21 = .ok (.sipush (-1000), 3) := by decide +kernel
theorem dX8_put_24 : decode cX8_put 24 = .ok (.sipush 1000, 3) := by decide +kernel
theorem dX8_put_27 : decode cX8_put 27 = .ok (.invokestatic 49, 3) := by decide +kernel
theorem dX8_put_30 : decode cX8_put 30 = .ok (.ifCond .eq 17, 3) := by decide +kernel
theorem dX8_put_33 : decode cX8_put 33 = .ok (.iload 4, 2) := by decide +kernel
theorem dX8_put_35 : decode cX8_put 35 = .ok (.sipush (-1000), 3) := by decide +kernel
theorem dX8_put_38 : decode cX8_put 38 = .ok (.sipush 1000, 3) := by decide +kernel
theorem dX8_put_41 : decode cX8_put 41 = .ok (.invokestatic 49, 3) := by decide +kernel
theorem dX8_put_44 : decode cX8_put 44 = .ok (.ifCond .ne 7, 3) := by decide +kernel
theorem dX8_put_47 : decode cX8_put 47 = .ok (.iconst 1, 1) := by decide +kernel
theorem dX8_put_48 : decode cX8_put 48 = .ok (.goto 4, 3) := by decide +kernel
theorem dX8_put_51 : decode cX8_put 51 = .ok (.iconst 0, 1) := by decide +kernel
theorem dX8_put_52 : decode cX8_put 52 = .ok (.iconst 2, 1) := by decide +kernel
theorem dX8_put_53 : decode cX8_put 53 = .ok (.invokevirtual 45, 3) := by decide +kernel
theorem dX8_put_56 : decode cX8_put 56 = .ok (.ifCond .eq 5, 3) := by decide +kernel
theorem dX8_put_59 : decode cX8_put 59 = .ok (.iconst 0, 1) := by decide +kernel
theorem dX8_put_60 : decode cX8_put 60 = .ok (.ireturn, 1) := by decide +kernel
theorem dX8_put_61 : decode cX8_put 61 = .ok (.aload_n 0, 1) := by decide +kernel
theorem dX8_put_62 : decode cX8_put 62 = .ok (.iload_n 1, 1) := by decide +kernel
theorem dX8_put_63 : decode cX8_put 63 = .ok (.iload_n 2, 1) := by decide +kernel
theorem dX8_put_64 : decode cX8_put 64 = .ok (.iload_n 3, 1) := by decide +kernel
theorem dX8_put_65 : decode cX8_put 65 = .ok (.i2l, 1) := by decide +kernel
theorem dX8_put_66 : decode cX8_put 66 = .ok (.invokestatic 20, 3) := by decide +kernel
theorem dX8_put_69 : decode cX8_put 69 = .ok (.iload 4, 2) := by decide +kernel
theorem dX8_put_71 : decode cX8_put 71 = .ok (.i2l, 1) := by decide +kernel
theorem dX8_put_72 : decode cX8_put 72 = .ok (.invokestatic 20, 3) := by decide +kernel
theorem dX8_put_75 : decode cX8_put 75 = .ok (.invokevirtual 232, 3) := by decide +kernel
theorem dX8_put_78 : decode cX8_put 78 = .ok (.ireturn, 1) := by decide +kernel
theorem dX8_take_0 : decode cX8_take 0 = .ok (.aload_n 0, 1) := by decide +kernel
theorem dX8_take_1 : decode cX8_take 1 = .ok (.iload_n 1, 1) := by decide +kernel
theorem dX8_take_2 : decode cX8_take 2 = .ok (.invokestatic 145, 3) := by decide +kernel
theorem dX8_take_5 : decode cX8_take 5 = .ok (.ifCond .ne 10, 3) := by decide +kernel
theorem dX8_take_8 : decode cX8_take 8 = .ok (.iload_n 2, 1) := by decide +kernel
theorem dX8_take_9 : decode cX8_take 9 = .ok (.invokestatic 145, 3) := by decide +kernel
theorem dX8_take_12 : decode cX8_take 12 = .ok (.ifCond .eq 7, 3) := by decide +kernel
theorem dX8_take_15 : decode cX8_take 15 = .ok (.iconst 1, 1) := by decide +kernel
theorem dX8_take_16 : decode cX8_take 16 = .ok (.goto 4, 3) := by decide +kernel
theorem dX8_take_19 : decode cX8_take 19 = .ok (.iconst 0, 1) := by decide +kernel
theorem dX8_take_20 : decode cX8_take 20 = .ok (.iconst 1, 1) := by decide +kernel
theorem dX8_take_21 : decode cX8_take 21 = .ok (.invokevirtual 149, 3) := by decide +kernel
theorem dX8_take_24 : decode cX8_take 24 = .ok (.ifCond .eq 5, 3) := by decide +kernel
theorem dX8_take_27 : decode cX8_take 27 = .ok (.iconst 0, 1) := by decide +kernel
theorem dX8_take_28 : decode cX8_take 28 = .ok (.ireturn, 1) := by decide +kernel
theorem dX8_take_29 : decode cX8_take 29 = .ok (.aload_n 0, 1) := by decide +kernel
theorem dX8_take_30 : decode cX8_take 30 = .ok (.iload_n 1, 1) := by decide +kernel
theorem dX8_take_31 : decode cX8_take 31 = .ok (.invokevirtual 167, 3) := by decide +kernel
theorem dX8_take_34 : decode cX8_take 34 = .ok (.astore_n 3, 1) := by decide +kernel
theorem dX8_take_35 : decode cX8_take 35 = .ok (.aload_n 3, 1) := by decide +kernel
theorem dX8_take_36 : decode cX8_take 36 = .ok (.iconst 0, 1) := by decide +kernel
theorem dX8_take_37 : decode cX8_take 37 = .ok (.aaload, 1) := by decide +kernel
theorem dX8_take_38 : decode cX8_take 38 = .ok (.invokestatic 236, 3) := by decide +kernel
theorem dX8_take_41 : decode cX8_take 41 = .ok (.ifCond .ne 12, 3) := by decide +kernel
theorem dX8_take_44 : decode cX8_take 44 = .ok (.aload_n 3, 1) := by decide +kernel
theorem dX8_take_45 : decode cX8_take 45 = .ok (.iconst 1, 1) := by decide +kernel
theorem dX8_take_46 : decode cX8_take 46 = .ok (.aaload, 1) := by decide +kernel
theorem dX8_take_47 : decode cX8_take 47 = .ok (.invokestatic 236, 3) := by decide +kernel
theorem dX8_take_50 : decode cX8_take 50 = .ok (.ifCond .eq 10, 3) := by decide +kernel
theorem dX8_take_53 : decode cX8_take 53 = .ok (.aload_n 0, 1) := by decide +kernel
theorem dX8_take_54 : decode cX8_take 54 = .ok (.invokevirtual 158, 3) := by decide +kernel
theorem dX8_take_57 : decode cX8_take 57 = .ok (.goto 20, 3) := by decide +kernel
theorem dX8_take_60 : decode cX8_take 60 = .ok (.aload_n 0, 1) := by decide +kernel
theorem dX8_take_61 : decode cX8_take 61 = .ok (.iload_n 2, 1) := by decide +kernel
theorem dX8_take_62 : decode cX8_take 62 = .ok (.aload_n 0, 1) := by decide +kernel
theorem dX8_take_63 : decode cX8_take 63 = .ok (.getfield 9, 3) := by decide +kernel
theorem dX8_take_66 : decode cX8_take 66 = .ok (.iload_n 1, 1) := by decide +kernel
theorem dX8_take_67 : decode cX8_take 67 = .ok (.iaload, 1) := by decide +kernel
theorem dX8_take_68 : decode cX8_take 68 = .ok (.aload_n 3, 1) := by decide +kernel
theorem dX8_take_69 : decode cX8_take 69 = .ok (.iconst 0, 1) := by decide +kernel
theorem dX8_take_70 : decode cX8_take 70 = .ok (.aaload, 1) := by decide +kernel
theorem dX8_take_71 : decode cX8_take 71 = .ok (.aload_n 3, 1) := by decide +kernel
theorem dX8_take_72 : decode cX8_take 72 = .ok (.iconst 1, 1) := by decide +kernel
theorem dX8_take_73 : decode cX8_take 73 = .ok (.aaload, 1) := by decide +kernel
theorem dX8_take_74 : decode cX8_take 74 = .ok (.invokevirtual 232, 3) := by decide +kernel
theorem dX8_take_77 : decode cX8_take 77 = .ok (.ireturn, 1) := by decide +kernel
theorem dX8_least_0 : decode cX8_least 0 = .ok (.aload_n 0, 1) := by decide +kernel
theorem dX8_least_1 : decode cX8_least 1 = .ok (.iload_n 1, 1) := by decide +kernel
theorem dX8_least_2 : decode cX8_least 2 = .ok (.invokestatic 145, 3) := by decide +kernel
theorem dX8_least_5 : decode cX8_least 5 = .ok (.iconst 1, 1) := by decide +kernel
theorem dX8_least_6 : decode cX8_least 6 = .ok (.invokevirtual 149, 3) := by decide +kernel
theorem dX8_least_9 : decode cX8_least 9 = .ok (.ifCond .ne 15, 3) := by decide +kernel
theorem dX8_least_12 : decode cX8_least 12 = .ok (.aload_n 0, 1) := by decide +kernel
theorem dX8_least_13 : decode cX8_least 13 = .ok (.iload_n 2, 1) := by decide +kernel
theorem dX8_least_14 : decode cX8_least 14 = .ok (.invokestatic 152, 3) := by decide +kernel
theorem dX8_least_17 : decode cX8_least 17 = .ok (.iconst 2, 1) := by decide +kernel
theorem dX8_least_18 : decode cX8_least 18 = .ok (.invokevirtual 45, 3) := by decide +kernel
theorem dX8_least_21 : decode cX8_least 21 = .ok (.ifCond .eq 5, 3) := by decide +kernel
theorem dX8_least_24 : decode cX8_least 24 = .ok (.iconst 0, 1) := by decide +kernel
theorem dX8_least_25 : decode cX8_least 25 = .ok (.ireturn, 1) := by decide +kernel
theorem dX8_least_26 : decode cX8_least 26 = .ok (.iload_n 2, 1) := by decide +kernel
theorem dX8_least_27 : decode cX8_least 27 = .ok (.invokestatic 225, 3) := by decide +kernel
theorem dX8_least_30 : decode cX8_least 30 = .ok (.astore_n 3, 1) := by decide +kernel
theorem dX8_least_31 : decode cX8_least 31 = .ok (.aload_n 0, 1) := by decide +kernel
theorem dX8_least_32 : decode cX8_least 32 = .ok (.iload_n 1, 1) := by decide +kernel
theorem dX8_least_33 : decode cX8_least 33 = .ok (.iload_n 2, 1) := by decide +kernel
theorem dX8_least_34 : decode cX8_least 34 = .ok (.aload_n 3, 1) := by decide +kernel
theorem dX8_least_35 : decode cX8_least 35 = .ok (.iconst 0, 1) := by decide +kernel
theorem dX8_least_36 : decode cX8_least 36 = .ok (.aaload, 1) := by decide +kernel
theorem dX8_least_37 : decode cX8_least 37 = .ok (.aload_n 3, 1) := by decide +kernel
theorem dX8_least_38 : decode cX8_least 38 = .ok (.iconst 1, 1) := by decide +kernel
theorem dX8_least_39 : decode cX8_least 39 = .ok (.aaload, 1) := by decide +kernel
theorem dX8_least_40 : decode cX8_least 40 = .ok (.invokevirtual 232, 3) := by decide +kernel
theorem dX8_least_43 : decode cX8_least 43 = .ok (.ireturn, 1) := by decide +kernel
theorem dX8_product_0 : decode cX8_product 0 = .ok (.iconst 2, 1) := by decide +kernel
theorem dX8_product_1 : decode cX8_product 1 = .ok (.anewarray 19, 3) := by decide +kernel
theorem dX8_product_4 : decode cX8_product 4 = .ok (.dup, 1) := by decide +kernel
theorem dX8_product_5 : decode cX8_product 5 = .ok (.iconst 0, 1) := by decide +kernel
theorem dX8_product_6 : decode cX8_product 6 = .ok (.aload_n 1, 1) := by decide +kernel
theorem dX8_product_7 : decode cX8_product 7 = .ok (.aload_n 3, 1) := by decide +kernel
theorem dX8_product_8 : decode cX8_product 8 = .ok (.invokestatic 124, 3) := by decide +kernel
theorem dX8_product_11 : decode cX8_product 11 = .ok (.iload_n 0, 1) := by decide +kernel
theorem dX8_product_12 : decode cX8_product 12 = .ok (.i2l, 1) := by decide +kernel
theorem dX8_product_13 : decode cX8_product 13 = .ok (.invokestatic 20, 3) := by decide +kernel
theorem dX8_product_16 : decode cX8_product 16 = .ok (.aload_n 2, 1) := by decide +kernel
theorem dX8_product_17 : decode cX8_product 17 = .ok (.aload 4, 2) := by decide +kernel
theorem dX8_product_19 : decode cX8_product 19 = .ok (.invokestatic 124, 3) := by decide +kernel
theorem dX8_product_22 : decode cX8_product 22 = .ok (.invokestatic 124, 3) := by decide +kernel
theorem dX8_product_25 : decode cX8_product 25 = .ok (.invokestatic 81, 3) := by decide +kernel
theorem dX8_product_28 : decode cX8_product 28 = .ok (.aastore, 1) := by decide +kernel
theorem dX8_product_29 : decode cX8_product 29 = .ok (.dup, 1) := by decide +kernel
theorem dX8_product_30 : decode cX8_product 30 = .ok (.iconst 1, 1) := by decide +kernel
theorem dX8_product_31 : decode cX8_product 31 = .ok (.aload_n 1, 1) := by decide +kernel
theorem dX8_product_32 : decode cX8_product 32 = .ok (.aload 4, 2) := by decide +kernel
theorem dX8_product_34 : decode cX8_product 34 = .ok (.invokestatic 124, 3) := by decide +kernel
theorem dX8_product_37 : decode cX8_product 37 = .ok (.aload_n 2, 1) := by decide +kernel
theorem dX8_product_38 : decode cX8_product 38 = .ok (.aload_n 3, 1) := by decide +kernel
theorem dX8_product_39 : decode cX8_product 39 = .ok (.invokestatic 124, 3) := by decide +kernel
theorem dX8_product_42 : decode cX8_product 42 = .ok (.invokestatic 81, 3) := by decide +kernel
theorem dX8_product_45 : decode cX8_product 45 = .ok (.aastore, 1) := by decide +kernel
theorem dX8_product_46 : decode cX8_product 46 = .ok (.areturn, 1) := by decide +kernel
theorem dX8_compose_0 : decode cX8_compose 0 = .ok (.aload_n 0, 1) := by decide +kernel
theorem dX8_compose_1 : decode cX8_compose 1 = .ok (.iload_n 1, 1) := by decide +kernel
theorem dX8_compose_2 : decode cX8_compose 2 = .ok (.invokestatic 145, 3) := by decide +kernel
theorem dX8_compose_5 : decode cX8_compose 5 = .ok (.ifCond .ne 17, 3) := by decide +kernel
theorem dX8_compose_8 : decode cX8_compose 8 = .ok (.iload_n 2, 1) := by decide +kernel
theorem dX8_compose_9 : decode cX8_compose 9 = .ok (.invokestatic 145, 3) := by decide +kernel
theorem dX8_compose_12 : decode cX8_compose 12 = .ok (.ifCond .ne 10, 3) := by decide +kernel
theorem dX8_compose_15 : decode cX8_compose 15 = .ok (.iload_n 3, 1) := by decide +kernel
theorem dX8_compose_16 : decode cX8_compose 16 = .ok (.invokestatic 145, 3) := by decide +kernel
theorem dX8_compose_19 : decode cX8_compose 19 = .ok (.ifCond .eq 7, 3) := by decide +kernel
theorem dX8_compose_22 : decode cX8_compose 22 = .ok (.iconst 1, 1) := by decide +kernel
theorem dX8_compose_23 : decode cX8_compose 23 = .ok (.goto 4, 3) := by decide +kernel
theorem dX8_compose_26 : decode cX8_compose 26 = .ok (.iconst 0, 1) := by decide +kernel
theorem dX8_compose_27 : decode cX8_compose 27 = .ok (.iconst 1, 1) := by decide +kernel
theorem dX8_compose_28 : decode cX8_compose 28 = .ok (.invokevirtual 149, 3) := by decide +kernel
theorem dX8_compose_31 : decode cX8_compose 31 = .ok (.ifCond .eq 5, 3) := by decide +kernel
theorem dX8_compose_34 : decode cX8_compose 34 = .ok (.iconst 0, 1) := by decide +kernel
theorem dX8_compose_35 : decode cX8_compose 35 = .ok (.ireturn, 1) := by decide +kernel
theorem dX8_compose_36 : decode cX8_compose 36 = .ok (.aload_n 0, 1) := by decide +kernel
theorem dX8_compose_37 : decode cX8_compose 37 = .ok (.getfield 16, 3) := by decide +kernel
theorem dX8_compose_40 : decode cX8_compose 40 = .ok (.iload_n 1, 1) := by decide +kernel
theorem dX8_compose_41 : decode cX8_compose 41 = .ok (.iaload, 1) := by decide +kernel
theorem dX8_compose_42 : decode cX8_compose 42 = .ok (.aload_n 0, 1) := by decide +kernel
theorem dX8_compose_43 : decode cX8_compose 43 = .ok (.getfield 16, 3) := by decide +kernel
theorem dX8_compose_46 : decode cX8_compose 46 = .ok (.iload_n 2, 1) := by decide +kernel
theorem dX8_compose_47 : decode cX8_compose 47 = .ok (.iaload, 1) := by decide +kernel
theorem dX8_compose_48 : decode cX8_compose 48 = .ok (.if_icmp .eq 8, 3) := by decide +kernel
theorem dX8_compose_51 : decode cX8_compose 51 = .ok (.aload_n 0, 1) := by decide +kernel
theorem dX8_compose_52 : decode cX8_compose 52 = .ok (.invokevirtual 158, 3) := by decide +kernel
theorem dX8_compose_55 : decode cX8_compose 55 = .ok (.ireturn, 1) := by decide +kernel
theorem dX8_compose_56 : decode cX8_compose 56 = .ok (.aload_n 0, 1) := by decide +kernel
theorem dX8_compose_57 : decode cX8_compose 57 = .ok (.getfield 16, 3) := by decide +kernel
theorem dX8_compose_60 : decode cX8_compose 60 = .ok (.iload_n 1, 1) := by decide +kernel
theorem dX8_compose_61 : decode cX8_compose 61 = .ok (.iaload, 1) := by decide +kernel
theorem dX8_compose_62 : decode cX8_compose 62 = .ok (.aload_n 0, 1) := by decide +kernel
theorem dX8_compose_63 : decode cX8_compose 63 = .ok (.getfield 24, 3) := by decide +kernel
theorem dX8_compose_66 : decode cX8_compose 66 = .ok (.iload_n 1, 1) := by decide +kernel
theorem dX8_compose_67 : decode cX8_compose 67 = .ok (.aaload, 1) := by decide +kernel
theorem dX8_compose_68 : decode cX8_compose 68 = .ok (.aload_n 0, 1) := by decide +kernel
theorem dX8_compose_69 : decode cX8_compose 69 = .ok (.getfield 28, 3) := by decide +kernel
theorem dX8_compose_72 : decode cX8_compose 72 = .ok (.iload_n 1, 1) := by decide +kernel
theorem dX8_compose_73 : decode cX8_compose 73 = .ok (.aaload, 1) := by decide +kernel
theorem dX8_compose_74 : decode cX8_compose 74 = .ok (.aload_n 0, 1) := by decide +kernel
theorem dX8_compose_75 : decode cX8_compose 75 = .ok (.getfield 24, 3) := by decide +kernel
theorem dX8_compose_78 : decode cX8_compose 78 = .ok (.iload_n 2, 1) := by decide +kernel
theorem dX8_compose_79 : decode cX8_compose 79 = .ok (.aaload, 1) := by decide +kernel
theorem dX8_compose_80 : decode cX8_compose 80 = .ok (.aload_n 0, 1) := by decide +kernel
theorem dX8_compose_81 : decode cX8_compose 81 = .ok (.getfield 28, 3) := by decide +kernel
theorem dX8_compose_84 : decode cX8_compose 84 = .ok (.iload_n 2, 1) := by decide +kernel
theorem dX8_compose_85 : decode cX8_compose 85 = .ok (.aaload, 1) := by decide +kernel
theorem dX8_compose_86 : decode cX8_compose 86 = .ok (.invokestatic 239, 3) := by decide +kernel
theorem dX8_compose_89 : decode cX8_compose 89 = .ok (.astore 4, 2) := by decide +kernel
theorem dX8_compose_91 : decode cX8_compose 91 = .ok (.aload 4, 2) := by decide +kernel
theorem dX8_compose_93 : decode cX8_compose 93 = .ok (.iconst 0, 1) := by decide +kernel
theorem dX8_compose_94 : decode cX8_compose 94 = .ok (.aaload, 1) := by decide +kernel
theorem dX8_compose_95 : decode cX8_compose 95 = .ok (.invokestatic 236, 3) := by decide +kernel
theorem dX8_compose_98 : decode cX8_compose 98 = .ok (.ifCond .ne 13, 3) := by decide +kernel
theorem dX8_compose_101 : decode cX8_compose 101 = .ok (.aload 4, 2) := by decide +kernel
theorem dX8_compose_103 : decode cX8_compose 103 = .ok (.iconst 1, 1) := by decide +kernel
theorem dX8_compose_104 : decode cX8_compose 104 = .ok (.aaload, 1) := by decide +kernel
theorem dX8_compose_105 : decode cX8_compose 105 = .ok (.invokestatic 236, 3) := by decide +kernel
theorem dX8_compose_108 : decode cX8_compose 108 = .ok (.ifCond .eq 10, 3) := by decide +kernel
theorem dX8_compose_111 : decode cX8_compose 111 = .ok (.aload_n 0, 1) := by decide +kernel
theorem dX8_compose_112 : decode cX8_compose 112 = .ok (.invokevirtual 158, 3) := by decide +kernel
theorem dX8_compose_115 : decode cX8_compose 115 = .ok (.goto 22, 3) := by decide +kernel
theorem dX8_compose_118 : decode cX8_compose 118 = .ok (.aload_n 0, 1) := by decide +kernel
theorem dX8_compose_119 : decode cX8_compose 119 = .ok (.iload_n 3, 1) := by decide +kernel
theorem dX8_compose_120 : decode cX8_compose 120 = .ok (.aload_n 0, 1) := by decide +kernel
theorem dX8_compose_121 : decode cX8_compose 121 = .ok (.getfield 16, 3) := by decide +kernel
theorem dX8_compose_124 : decode cX8_compose 124 = .ok (.iload_n 1, 1) := by decide +kernel
theorem dX8_compose_125 : decode cX8_compose 125 = .ok (.iaload, 1) := by decide +kernel
theorem dX8_compose_126 : decode cX8_compose 126 = .ok (.aload 4, 2) := by decide +kernel
theorem dX8_compose_128 : decode cX8_compose 128 = .ok (.iconst 0, 1) := by decide +kernel
theorem dX8_compose_129 : decode cX8_compose 129 = .ok (.aaload, 1) := by decide +kernel
theorem dX8_compose_130 : decode cX8_compose 130 = .ok (.aload 4, 2) := by decide +kernel
theorem dX8_compose_132 : decode cX8_compose 132 = .ok (.iconst 1, 1) := by decide +kernel
theorem dX8_compose_133 : decode cX8_compose 133 = .ok (.aaload, 1) := by decide +kernel
theorem dX8_compose_134 : decode cX8_compose 134 = .ok (.invokevirtual 232, 3) := by decide +kernel
theorem dX8_compose_137 : decode cX8_compose 137 = .ok (.ireturn, 1) := by decide +kernel
theorem dX8_power_0 : decode cX8_power 0 = .ok (.aload_n 0, 1) := by decide +kernel
theorem dX8_power_1 : decode cX8_power 1 = .ok (.iload_n 1, 1) := by decide +kernel
theorem dX8_power_2 : decode cX8_power 2 = .ok (.invokestatic 145, 3) := by decide +kernel
theorem dX8_power_5 : decode cX8_power 5 = .ok (.iconst 1, 1) := by decide +kernel
theorem dX8_power_6 : decode cX8_power 6 = .ok (.invokevirtual 149, 3) := by decide +kernel
theorem dX8_power_9 : decode cX8_power 9 = .ok (.ifCond .ne 25, 3) := by decide +kernel
theorem dX8_power_12 : decode cX8_power 12 = .ok (.aload_n 0, 1) := by decide +kernel
theorem dX8_power_13 : decode cX8_power 13 = .ok (.iload_n 2, 1) := by decide +kernel
theorem dX8_power_14 : decode cX8_power 14 = .ok (.iconst 0, 1) := by decide +kernel
theorem dX8_power_15 : decode cX8_power 15 = .ok (.iconst 5, 1) := by decide +kernel
theorem dX8_power_16 : decode cX8_power 16 = .ok (.invokestatic 49, 3) := by decide +kernel
theorem dX8_power_19 : decode cX8_power 19 = .ok (.ifCond .ne 7, 3) := by decide +kernel
theorem dX8_power_22 : decode cX8_power 22 = .ok (.iconst 1, 1) := by decide +kernel
theorem dX8_power_23 : decode cX8_power 23 = .ok (.goto 4, 3) := by decide +kernel
theorem dX8_power_26 : decode cX8_power 26 = .ok (.iconst 0, 1) := by decide +kernel
theorem dX8_power_27 : decode cX8_power 27 = .ok (.iconst 2, 1) := by decide +kernel
theorem dX8_power_28 : decode cX8_power 28 = .ok (.invokevirtual 45, 3) := by decide +kernel
theorem dX8_power_31 : decode cX8_power 31 = .ok (.ifCond .eq 5, 3) := by decide +kernel
theorem dX8_power_34 : decode cX8_power 34 = .ok (.iconst 0, 1) := by decide +kernel
theorem dX8_power_35 : decode cX8_power 35 = .ok (.ireturn, 1) := by decide +kernel
theorem dX8_power_36 : decode cX8_power 36 = .ok (.iconst 2, 1) := by decide +kernel
theorem dX8_power_37 : decode cX8_power 37 = .ok (.anewarray 19, 3) := by decide +kernel
theorem dX8_power_40 : decode cX8_power 40 = .ok (.dup, 1) := by decide +kernel
theorem dX8_power_41 : decode cX8_power 41 = .ok (.iconst 0, 1) := by decide +kernel
theorem dX8_power_42 : decode cX8_power 42 = .ok (.lconst 1, 1) := by decide +kernel
theorem dX8_power_43 : decode cX8_power 43 = .ok (.invokestatic 20, 3) := by decide +kernel
theorem dX8_power_46 : decode cX8_power 46 = .ok (.aastore, 1) := by decide +kernel
theorem dX8_power_47 : decode cX8_power 47 = .ok (.dup, 1) := by decide +kernel
theorem dX8_power_48 : decode cX8_power 48 = .ok (.iconst 1, 1) := by decide +kernel
theorem dX8_power_49 : decode cX8_power 49 = .ok (.lconst 0, 1) := by decide +kernel
theorem dX8_power_50 : decode cX8_power 50 = .ok (.invokestatic 20, 3) := by decide +kernel
theorem dX8_power_53 : decode cX8_power 53 = .ok (.aastore, 1) := by decide +kernel
theorem dX8_power_54 : decode cX8_power 54 = .ok (.astore_n 3, 1) := by decide +kernel
theorem dX8_power_55 : decode cX8_power 55 = .ok (.iconst 0, 1) := by decide +kernel
theorem dX8_power_56 : decode cX8_power 56 = .ok (.istore 4, 2) := by decide +kernel
theorem dX8_power_58 : decode cX8_power 58 = .ok (.iload 4, 2) := by decide +kernel
theorem dX8_power_60 : decode cX8_power 60 = .ok (.iload_n 2, 1) := by decide +kernel
theorem dX8_power_61 : decode cX8_power 61 = .ok (.if_icmp .ge 37, 3) := by decide +kernel
theorem dX8_power_64 : decode cX8_power 64 = .ok (.aload_n 0, 1) := by decide +kernel
theorem dX8_power_65 : decode cX8_power 65 = .ok (.getfield 16, 3) := by decide +kernel
theorem dX8_power_68 : decode cX8_power 68 = .ok (.iload_n 1, 1) := by decide +kernel
theorem dX8_power_69 : decode cX8_power 69 = .ok (.iaload, 1) := by decide +kernel
theorem dX8_power_70 : decode cX8_power 70 = .ok (.aload_n 3, 1) := by decide +kernel
theorem dX8_power_71 : decode cX8_power 71 = .ok (.iconst 0, 1) := by decide +kernel
theorem dX8_power_72 : decode cX8_power 72 = .ok (.aaload, 1) := by decide +kernel
theorem dX8_power_73 : decode cX8_power 73 = .ok (.aload_n 3, 1) := by decide +kernel
theorem dX8_power_74 : decode cX8_power 74 = .ok (.iconst 1, 1) := by decide +kernel
theorem dX8_power_75 : decode cX8_power 75 = .ok (.aaload, 1) := by decide +kernel
theorem dX8_power_76 : decode cX8_power 76 = .ok (.aload_n 0, 1) := by decide +kernel
theorem dX8_power_77 : decode cX8_power 77 = .ok (.getfield 24, 3) := by decide +kernel
theorem dX8_power_80 : decode cX8_power 80 = .ok (.iload_n 1, 1) := by decide +kernel
theorem dX8_power_81 : decode cX8_power 81 = .ok (.aaload, 1) := by decide +kernel
theorem dX8_power_82 : decode cX8_power 82 = .ok (.aload_n 0, 1) := by decide +kernel
theorem dX8_power_83 : decode cX8_power 83 = .ok (.getfield 28, 3) := by decide +kernel
theorem dX8_power_86 : decode cX8_power 86 = .ok (.iload_n 1, 1) := by decide +kernel
theorem dX8_power_87 : decode cX8_power 87 = .ok (.aaload, 1) := by decide +kernel
theorem dX8_power_88 : decode cX8_power 88 = .ok (.invokestatic 239, 3) := by decide +kernel
theorem dX8_power_91 : decode cX8_power 91 = .ok (.astore_n 3, 1) := by decide +kernel
theorem dX8_power_92 : decode cX8_power 92 = .ok (.iinc 4 1, 3) := by decide +kernel
theorem dX8_power_95 : decode cX8_power 95 = .ok (.goto (-37), 3) := by decide +kernel
theorem dX8_power_98 : decode cX8_power 98 = .ok (.aload_n 3, 1) := by decide +kernel
theorem dX8_power_99 : decode cX8_power 99 = .ok (.iconst 0, 1) := by decide +kernel
theorem dX8_power_100 : decode cX8_power 100 = .ok (.aaload, 1) := by decide +kernel
theorem dX8_power_101 : decode cX8_power 101 = .ok (.invokestatic 236, 3) := by decide +kernel
theorem dX8_power_104 : decode cX8_power 104 = .ok (.ifCond .ne 12, 3) := by decide +kernel
theorem dX8_power_107 : decode cX8_power 107 = .ok (.aload_n 3, 1) := by decide +kernel
theorem dX8_power_108 : decode cX8_power 108 = .ok (.iconst 1, 1) := by decide +kernel
theorem dX8_power_109 : decode cX8_power 109 = .ok (.aaload, 1) := by decide +kernel
theorem dX8_power_110 : decode cX8_power 110 = .ok (.invokestatic 236, 3) := by decide +kernel
theorem dX8_power_113 : decode cX8_power 113 = .ok (.ifCond .eq 10, 3) := by decide +kernel
theorem dX8_power_116 : decode cX8_power 116 = .ok (.aload_n 0, 1) := by decide +kernel
theorem dX8_power_117 : decode cX8_power 117 = .ok (.invokevirtual 158, 3) := by decide +kernel
theorem dX8_power_120 : decode cX8_power 120 = .ok (.goto 20, 3) := by decide +kernel
theorem dX8_power_123 : decode cX8_power 123 = .ok (.aload_n 0, 1) := by decide +kernel
theorem dX8_power_124 : decode cX8_power 124 = .ok (.iload_n 1, 1) := by decide +kernel
theorem dX8_power_125 : decode cX8_power 125 = .ok (.aload_n 0, 1) := by decide +kernel
theorem dX8_power_126 : decode cX8_power 126 = .ok (.getfield 16, 3) := by decide +kernel
theorem dX8_power_129 : decode cX8_power 129 = .ok (.iload_n 1, 1) := by decide +kernel
theorem dX8_power_130 : decode cX8_power 130 = .ok (.iaload, 1) := by decide +kernel
theorem dX8_power_131 : decode cX8_power 131 = .ok (.aload_n 3, 1) := by decide +kernel
theorem dX8_power_132 : decode cX8_power 132 = .ok (.iconst 0, 1) := by decide +kernel
theorem dX8_power_133 : decode cX8_power 133 = .ok (.aaload, 1) := by decide +kernel
theorem dX8_power_134 : decode cX8_power 134 = .ok (.aload_n 3, 1) := by decide +kernel
theorem dX8_power_135 : decode cX8_power 135 = .ok (.iconst 1, 1) := by decide +kernel
theorem dX8_power_136 : decode cX8_power 136 = .ok (.aaload, 1) := by decide +kernel
theorem dX8_power_137 : decode cX8_power 137 = .ok (.invokevirtual 232, 3) := by decide +kernel
theorem dX8_power_140 : decode cX8_power 140 = .ok (.ireturn, 1) := by decide +kernel
theorem dX8_mirror_0 : decode cX8_mirror 0 = .ok (.aload_n 0, 1) := by decide +kernel
theorem dX8_mirror_1 : decode cX8_mirror 1 = .ok (.iload_n 1, 1) := by decide +kernel
theorem dX8_mirror_2 : decode cX8_mirror 2 = .ok (.invokestatic 145, 3) := by decide +kernel
theorem dX8_mirror_5 : decode cX8_mirror 5 = .ok (.iconst 1, 1) := by decide +kernel
theorem dX8_mirror_6 : decode cX8_mirror 6 = .ok (.invokevirtual 149, 3) := by decide +kernel
theorem dX8_mirror_9 : decode cX8_mirror 9 = .ok (.ifCond .eq 5, 3) := by decide +kernel
theorem dX8_mirror_12 : decode cX8_mirror 12 = .ok (.iconst 0, 1) := by decide +kernel
theorem dX8_mirror_13 : decode cX8_mirror 13 = .ok (.ireturn, 1) := by decide +kernel
theorem dX8_mirror_14 : decode cX8_mirror 14 = .ok (.aload_n 0, 1) := by decide +kernel
theorem dX8_mirror_15 : decode cX8_mirror 15 = .ok (.getfield 24, 3) := by decide +kernel
theorem dX8_mirror_18 : decode cX8_mirror 18 = .ok (.iload_n 1, 1) := by decide +kernel
theorem dX8_mirror_19 : decode cX8_mirror 19 = .ok (.aaload, 1) := by decide +kernel
theorem dX8_mirror_20 : decode cX8_mirror 20 = .ok (.astore_n 3, 1) := by decide +kernel
theorem dX8_mirror_21 : decode cX8_mirror 21 = .ok (.aload_n 0, 1) := by decide +kernel
theorem dX8_mirror_22 : decode cX8_mirror 22 = .ok (.iload_n 1, 1) := by decide +kernel
theorem dX8_mirror_23 : decode cX8_mirror 23 = .ok (.aload_n 0, 1) := by decide +kernel
theorem dX8_mirror_24 : decode cX8_mirror 24 = .ok (.getfield 16, 3) := by decide +kernel
theorem dX8_mirror_27 : decode cX8_mirror 27 = .ok (.iload_n 1, 1) := by decide +kernel
theorem dX8_mirror_28 : decode cX8_mirror 28 = .ok (.iaload, 1) := by decide +kernel
theorem dX8_mirror_29 : decode cX8_mirror 29 = .ok (.iload_n 2, 1) := by decide +kernel
theorem dX8_mirror_30 : decode cX8_mirror 30 = .ok (.ifCond .eq 14, 3) := by decide +kernel
theorem dX8_mirror_33 : decode cX8_mirror 33 = .ok (.aload_n 3, 1) := by decide +kernel
theorem dX8_mirror_34 : decode cX8_mirror 34 = .ok (.aload_n 3, 1) := by decide +kernel
theorem dX8_mirror_35 : decode cX8_mirror 35 = .ok (.iconst 0, 1) := by decide +kernel
theorem dX8_mirror_36 : decode cX8_mirror 36 = .ok (.iaload, 1) := by decide +kernel
theorem dX8_mirror_37 : decode cX8_mirror 37 = .ok (.ineg, 1) := by decide +kernel
theorem dX8_mirror_38 : decode cX8_mirror 38 = .ok (.invokestatic 77, 3) := by decide +kernel
theorem dX8_mirror_41 : decode cX8_mirror 41 = .ok (.goto 4, 3) := by decide +kernel
theorem dX8_mirror_44 : decode cX8_mirror 44 = .ok (.aload_n 3, 1) := by decide +kernel
theorem dX8_mirror_45 : decode cX8_mirror 45 = .ok (.aload_n 0, 1) := by decide +kernel
theorem dX8_mirror_46 : decode cX8_mirror 46 = .ok (.getfield 28, 3) := by decide +kernel
theorem dX8_mirror_49 : decode cX8_mirror 49 = .ok (.iload_n 1, 1) := by decide +kernel
theorem dX8_mirror_50 : decode cX8_mirror 50 = .ok (.aaload, 1) := by decide +kernel
theorem dX8_mirror_51 : decode cX8_mirror 51 = .ok (.aload_n 0, 1) := by decide +kernel
theorem dX8_mirror_52 : decode cX8_mirror 52 = .ok (.getfield 28, 3) := by decide +kernel
theorem dX8_mirror_55 : decode cX8_mirror 55 = .ok (.iload_n 1, 1) := by decide +kernel
theorem dX8_mirror_56 : decode cX8_mirror 56 = .ok (.aaload, 1) := by decide +kernel
theorem dX8_mirror_57 : decode cX8_mirror 57 = .ok (.iconst 0, 1) := by decide +kernel
theorem dX8_mirror_58 : decode cX8_mirror 58 = .ok (.iaload, 1) := by decide +kernel
theorem dX8_mirror_59 : decode cX8_mirror 59 = .ok (.ineg, 1) := by decide +kernel
theorem dX8_mirror_60 : decode cX8_mirror 60 = .ok (.invokestatic 77, 3) := by decide +kernel
theorem dX8_mirror_63 : decode cX8_mirror 63 = .ok (.invokevirtual 232, 3) := by decide +kernel
theorem dX8_mirror_66 : decode cX8_mirror 66 = .ok (.ireturn, 1) := by decide +kernel
theorem dX8_parted_0 : decode cX8_parted 0 = .ok (.aload_n 0, 1) := by decide +kernel
theorem dX8_parted_1 : decode cX8_parted 1 = .ok (.invokevirtual 59, 3) := by decide +kernel
theorem dX8_parted_4 : decode cX8_parted 4 = .ok (.checkcast 19, 3) := by decide +kernel
theorem dX8_parted_7 : decode cX8_parted 7 = .ok (.astore_n 2, 1) := by decide +kernel
theorem dX8_parted_8 : decode cX8_parted 8 = .ok (.aload_n 2, 1) := by decide +kernel
theorem dX8_parted_9 : decode cX8_parted 9 = .ok (.iload_n 1, 1) := by decide +kernel
theorem dX8_parted_10 : decode cX8_parted 10 = .ok (.invokestatic 196, 3) := by decide +kernel
theorem dX8_parted_13 : decode cX8_parted 13 = .ok (.invokestatic 95, 3) := by decide +kernel
theorem dX8_parted_16 : decode cX8_parted 16 = .ok (.ifCond .le 7, 3) := by decide +kernel
theorem dX8_parted_19 : decode cX8_parted 19 = .ok (.aconst_null, 1) := by decide +kernel
theorem dX8_parted_20 : decode cX8_parted 20 = .ok (.goto 21, 3) := by decide +kernel
theorem dX8_parted_23 : decode cX8_parted 23 = .ok (.iload_n 1, 1) := by decide +kernel
theorem dX8_parted_24 : decode cX8_parted 24 = .ok (.ifCond .ge 10, 3) := by decide +kernel
theorem dX8_parted_27 : decode cX8_parted 27 = .ok (.aload_n 0, 1) := by decide +kernel
theorem dX8_parted_28 : decode cX8_parted 28 = .ok (.iconst 0, 1) := by decide +kernel
theorem dX8_parted_29 : decode cX8_parted 29 = .ok (.iaload, 1) := by decide +kernel
theorem dX8_parted_30 : decode cX8_parted 30 = .ok (.ineg, 1) := by decide +kernel
theorem dX8_parted_31 : decode cX8_parted 31 = .ok (.goto 6, 3) := by decide +kernel
theorem dX8_parted_34 : decode cX8_parted 34 = .ok (.aload_n 0, 1) := by decide +kernel
theorem dX8_parted_35 : decode cX8_parted 35 = .ok (.iconst 0, 1) := by decide +kernel
theorem dX8_parted_36 : decode cX8_parted 36 = .ok (.iaload, 1) := by decide +kernel
theorem dX8_parted_37 : decode cX8_parted 37 = .ok (.aload_n 2, 1) := by decide +kernel
theorem dX8_parted_38 : decode cX8_parted 38 = .ok (.invokestatic 55, 3) := by decide +kernel
theorem dX8_parted_41 : decode cX8_parted 41 = .ok (.areturn, 1) := by decide +kernel
theorem dX8_divideBy_0 : decode cX8_divideBy 0 = .ok (.aload_n 0, 1) := by decide +kernel
theorem dX8_divideBy_1 : decode cX8_divideBy 1 = .ok (.iload_n 1, 1) := by decide +kernel
theorem dX8_divideBy_2 : decode cX8_divideBy 2 = .ok (.invokestatic 145, 3) := by decide +kernel
theorem dX8_divideBy_5 : decode cX8_divideBy 5 = .ok (.iconst 1, 1) := by decide +kernel
theorem dX8_divideBy_6 : decode cX8_divideBy 6 = .ok (.invokevirtual 149, 3) := by decide +kernel
theorem dX8_divideBy_9 : decode cX8_divideBy 9 = .ok (.ifCond .ne 27, 3) := by decide +kernel
theorem dX8_divideBy_12 : decode cX8_divideBy 12 = .ok (.aload_n 0, 1) := by decide +kernel
theorem dX8_divideBy_13 : decode cX8_divideBy 13 = .ok (.iload_n 2, 1) := by decide +kernel
theorem dX8_divideBy_14 : decode cX8_divideBy 14 = .ok (.bipush (-99), 2) := by decide +kernel
theorem dX8_divideBy_16 : decode cX8_divideBy 16 = .ok (.bipush 99, 2) := by decide +kernel
theorem dX8_divideBy_18 : decode cX8_divideBy 18 = .ok (.invokestatic 49, 3) := by decide +kernel
theorem dX8_divideBy_21 : decode cX8_divideBy 21 = .ok (.ifCond .ne 7, 3) := by decide +kernel
theorem dX8_divideBy_24 : decode cX8_divideBy 24 = .ok (.iconst 1, 1) := by decide +kernel
theorem dX8_divideBy_25 : decode cX8_divideBy 25 = .ok (.goto 4, 3) := by decide +kernel
theorem dX8_divideBy_28 : decode cX8_divideBy 28 = .ok (.iconst 0, 1) := by decide +kernel
theorem dX8_divideBy_29 : decode cX8_divideBy 29 = .ok (.iconst 2, 1) := by decide +kernel
theorem dX8_divideBy_30 : decode cX8_divideBy 30 = .ok (.invokevirtual 45, 3) := by decide +kernel
theorem dX8_divideBy_33 : decode cX8_divideBy 33 = .ok (.ifCond .eq 5, 3) := by decide +kernel
theorem dX8_divideBy_36 : decode cX8_divideBy 36 = .ok (.iconst 0, 1) := by decide +kernel
theorem dX8_divideBy_37 : decode cX8_divideBy 37 = .ok (.ireturn, 1) := by decide +kernel
theorem dX8_divideBy_38 : decode cX8_divideBy 38 = .ok (.iload_n 2, 1) := by decide +kernel
theorem dX8_divideBy_39 : decode cX8_divideBy 39 = .ok (.ifCond .ne 7, 3) := by decide +kernel
theorem dX8_divideBy_42 : decode cX8_divideBy 42 = .ok (.aconst_null, 1) := by decide +kernel
theorem dX8_divideBy_43 : decode cX8_divideBy 43 = .ok (.goto 13, 3) := by decide +kernel
theorem dX8_divideBy_46 : decode cX8_divideBy 46 = .ok (.aload_n 0, 1) := by decide +kernel
theorem dX8_divideBy_47 : decode cX8_divideBy 47 = .ok (.getfield 24, 3) := by decide +kernel
theorem dX8_divideBy_50 : decode cX8_divideBy 50 = .ok (.iload_n 1, 1) := by decide +kernel
theorem dX8_divideBy_51 : decode cX8_divideBy 51 = .ok (.aaload, 1) := by decide +kernel
theorem dX8_divideBy_52 : decode cX8_divideBy 52 = .ok (.iload_n 2, 1) := by decide +kernel
theorem dX8_divideBy_53 : decode cX8_divideBy 53 = .ok (.invokestatic 243, 3) := by decide +kernel
theorem dX8_divideBy_56 : decode cX8_divideBy 56 = .ok (.astore_n 3, 1) := by decide +kernel
theorem dX8_divideBy_57 : decode cX8_divideBy 57 = .ok (.iload_n 2, 1) := by decide +kernel
theorem dX8_divideBy_58 : decode cX8_divideBy 58 = .ok (.ifCond .ne 7, 3) := by decide +kernel
theorem dX8_divideBy_61 : decode cX8_divideBy 61 = .ok (.aconst_null, 1) := by decide +kernel
theorem dX8_divideBy_62 : decode cX8_divideBy 62 = .ok (.goto 13, 3) := by decide +kernel
theorem dX8_divideBy_65 : decode cX8_divideBy 65 = .ok (.aload_n 0, 1) := by decide +kernel
theorem dX8_divideBy_66 : decode cX8_divideBy 66 = .ok (.getfield 28, 3) := by decide +kernel
theorem dX8_divideBy_69 : decode cX8_divideBy 69 = .ok (.iload_n 1, 1) := by decide +kernel
theorem dX8_divideBy_70 : decode cX8_divideBy 70 = .ok (.aaload, 1) := by decide +kernel
theorem dX8_divideBy_71 : decode cX8_divideBy 71 = .ok (.iload_n 2, 1) := by decide +kernel
theorem dX8_divideBy_72 : decode cX8_divideBy 72 = .ok (.invokestatic 243, 3) := by decide +kernel
theorem dX8_divideBy_75 : decode cX8_divideBy 75 = .ok (.astore 4, 2) := by decide +kernel
theorem dX8_divideBy_77 : decode cX8_divideBy 77 = .ok (.aload_n 3, 1) := by decide +kernel
theorem dX8_divideBy_78 : decode cX8_divideBy 78 = .ok (.ifnull 8, 3) := by decide +kernel
theorem dX8_divideBy_81 : decode cX8_divideBy 81 = .ok (.aload 4, 2) := by decide +kernel
theorem dX8_divideBy_83 : decode cX8_divideBy 83 = .ok (.ifnonnull 10, 3) := by decide +kernel
theorem dX8_divideBy_86 : decode cX8_divideBy 86 = .ok (.aload_n 0, 1) := by decide +kernel
theorem dX8_divideBy_87 : decode cX8_divideBy 87 = .ok (.invokevirtual 158, 3) := by decide +kernel
theorem dX8_divideBy_90 : decode cX8_divideBy 90 = .ok (.goto 17, 3) := by decide +kernel
theorem dX8_divideBy_93 : decode cX8_divideBy 93 = .ok (.aload_n 0, 1) := by decide +kernel
theorem dX8_divideBy_94 : decode cX8_divideBy 94 = .ok (.iload_n 1, 1) := by decide +kernel
theorem dX8_divideBy_95 : decode cX8_divideBy 95 = .ok (.aload_n 0, 1) := by decide +kernel
theorem dX8_divideBy_96 : decode cX8_divideBy 96 = .ok (.getfield 16, 3) := by decide +kernel
theorem dX8_divideBy_99 : decode cX8_divideBy 99 = .ok (.iload_n 1, 1) := by decide +kernel
theorem dX8_divideBy_100 : decode cX8_divideBy 100 = .ok (.iaload, 1) := by decide +kernel
theorem dX8_divideBy_101 : decode cX8_divideBy 101 = .ok (.aload_n 3, 1) := by decide +kernel
theorem dX8_divideBy_102 : decode cX8_divideBy 102 = .ok (.aload 4, 2) := by decide +kernel
theorem dX8_divideBy_104 : decode cX8_divideBy 104 = .ok (.invokevirtual 232, 3) := by decide +kernel
theorem dX8_divideBy_107 : decode cX8_divideBy 107 = .ok (.ireturn, 1) := by decide +kernel
theorem dX8_pairCopy_0 : decode cX8_pairCopy 0 = .ok (.aload_n 0, 1) := by decide +kernel
theorem dX8_pairCopy_1 : decode cX8_pairCopy 1 = .ok (.iload_n 1, 1) := by decide +kernel
theorem dX8_pairCopy_2 : decode cX8_pairCopy 2 = .ok (.invokestatic 145, 3) := by decide +kernel
theorem dX8_pairCopy_5 : decode cX8_pairCopy 5 = .ok (.ifCond .ne 10, 3) := by decide +kernel
theorem dX8_pairCopy_8 : decode cX8_pairCopy 8 = .ok (.iload_n 2, 1) := by decide +kernel
theorem dX8_pairCopy_9 : decode cX8_pairCopy 9 = .ok (.invokestatic 145, 3) := by decide +kernel
theorem dX8_pairCopy_12 : decode cX8_pairCopy 12 = .ok (.ifCond .eq 7, 3) := by decide +kernel
theorem dX8_pairCopy_15 : decode cX8_pairCopy 15 = .ok (.iconst 1, 1) := by decide +kernel
theorem dX8_pairCopy_16 : decode cX8_pairCopy 16 = .ok (.goto 4, 3) := by decide +kernel
theorem dX8_pairCopy_19 : decode cX8_pairCopy 19 = .ok (.iconst 0, 1) := by decide +kernel
theorem dX8_pairCopy_20 : decode cX8_pairCopy 20 = .ok (.iconst 1, 1) := by decide +kernel
theorem dX8_pairCopy_21 : decode cX8_pairCopy 21 = .ok (.invokevirtual 149, 3) := by decide +kernel
theorem dX8_pairCopy_24 : decode cX8_pairCopy 24 = .ok (.ifCond .eq 7, 3) := by decide +kernel
theorem dX8_pairCopy_27 : decode cX8_pairCopy 27 = .ok (.iconst 0, 1) := by decide +kernel
theorem dX8_pairCopy_28 : decode cX8_pairCopy 28 = .ok (.goto 26, 3) := by decide +kernel
theorem dX8_pairCopy_31 : decode cX8_pairCopy 31 = .ok (.aload_n 0, 1) := by decide +kernel
theorem dX8_pairCopy_32 : decode cX8_pairCopy 32 = .ok (.iload_n 2, 1) := by decide +kernel
theorem dX8_pairCopy_33 : decode cX8_pairCopy 33 = .ok (.aload_n 0, 1) := by decide +kernel
theorem dX8_pairCopy_34 : decode cX8_pairCopy 34 = .ok (.getfield 16, 3) := by decide +kernel
theorem dX8_pairCopy_37 : decode cX8_pairCopy 37 = .ok (.iload_n 1, 1) := by decide +kernel
theorem dX8_pairCopy_38 : decode cX8_pairCopy 38 = .ok (.iaload, 1) := by decide +kernel
theorem dX8_pairCopy_39 : decode cX8_pairCopy 39 = .ok (.aload_n 0, 1) := by decide +kernel
theorem dX8_pairCopy_40 : decode cX8_pairCopy 40 = .ok (.getfield 24, 3) := by decide +kernel
theorem dX8_pairCopy_43 : decode cX8_pairCopy 43 = .ok (.iload_n 1, 1) := by decide +kernel
theorem dX8_pairCopy_44 : decode cX8_pairCopy 44 = .ok (.aaload, 1) := by decide +kernel
theorem dX8_pairCopy_45 : decode cX8_pairCopy 45 = .ok (.aload_n 0, 1) := by decide +kernel
theorem dX8_pairCopy_46 : decode cX8_pairCopy 46 = .ok (.getfield 28, 3) := by decide +kernel
theorem dX8_pairCopy_49 : decode cX8_pairCopy 49 = .ok (.iload_n 1, 1) := by decide +kernel
theorem dX8_pairCopy_50 : decode cX8_pairCopy 50 = .ok (.aaload, 1) := by decide +kernel
theorem dX8_pairCopy_51 : decode cX8_pairCopy 51 = .ok (.invokevirtual 232, 3) := by decide +kernel
theorem dX8_pairCopy_54 : decode cX8_pairCopy 54 = .ok (.ireturn, 1) := by decide +kernel
theorem dX8_pairBase_0 : decode cX8_pairBase 0 = .ok (.aload_n 0, 1) := by decide +kernel
theorem dX8_pairBase_1 : decode cX8_pairBase 1 = .ok (.iload_n 1, 1) := by decide +kernel
theorem dX8_pairBase_2 : decode cX8_pairBase 2 = .ok (.invokestatic 145, 3) := by decide +kernel
theorem dX8_pairBase_5 : decode cX8_pairBase 5 = .ok (.iconst 1, 1) := by decide +kernel
theorem dX8_pairBase_6 : decode cX8_pairBase 6 = .ok (.invokevirtual 149, 3) := by decide +kernel
theorem dX8_pairBase_9 : decode cX8_pairBase 9 = .ok (.ifCond .eq 7, 3) := by decide +kernel
theorem dX8_pairBase_12 : decode cX8_pairBase 12 = .ok (.iconst 0, 1) := by decide +kernel
theorem dX8_pairBase_13 : decode cX8_pairBase 13 = .ok (.goto 9, 3) := by decide +kernel
theorem dX8_pairBase_16 : decode cX8_pairBase 16 = .ok (.aload_n 0, 1) := by decide +kernel
theorem dX8_pairBase_17 : decode cX8_pairBase 17 = .ok (.getfield 16, 3) := by decide +kernel
theorem dX8_pairBase_20 : decode cX8_pairBase 20 = .ok (.iload_n 1, 1) := by decide +kernel
theorem dX8_pairBase_21 : decode cX8_pairBase 21 = .ok (.iaload, 1) := by decide +kernel
theorem dX8_pairBase_22 : decode cX8_pairBase 22 = .ok (.ireturn, 1) := by decide +kernel
theorem dX8_its_0 : decode cX8_its 0 = .ok (.iload_n 2, 1) := by decide +kernel
theorem dX8_its_1 : decode cX8_its 1 = .ok (.ifCond .eq 12, 3) := by decide +kernel
theorem dX8_its_4 : decode cX8_its 4 = .ok (.aload_n 0, 1) := by decide +kernel
theorem dX8_its_5 : decode cX8_its 5 = .ok (.getfield 24, 3) := by decide +kernel
theorem dX8_its_8 : decode cX8_its 8 = .ok (.iload_n 1, 1) := by decide +kernel
theorem dX8_its_9 : decode cX8_its 9 = .ok (.aaload, 1) := by decide +kernel
theorem dX8_its_10 : decode cX8_its 10 = .ok (.goto 9, 3) := by decide +kernel
theorem dX8_its_13 : decode cX8_its 13 = .ok (.aload_n 0, 1) := by decide +kernel
theorem dX8_its_14 : decode cX8_its 14 = .ok (.getfield 28, 3) := by decide +kernel
theorem dX8_its_17 : decode cX8_its 17 = .ok (.iload_n 1, 1) := by decide +kernel
theorem dX8_its_18 : decode cX8_its 18 = .ok (.aaload, 1) := by decide +kernel
theorem dX8_its_19 : decode cX8_its 19 = .ok (.areturn, 1) := by decide +kernel
theorem dX8_pairText_0 : decode cX8_pairText 0 = .ok (.aload_n 0, 1) := by decide +kernel
theorem dX8_pairText_1 : decode cX8_pairText 1 = .ok (.iload_n 1, 1) := by decide +kernel
theorem dX8_pairText_2 : decode cX8_pairText 2 = .ok (.invokestatic 145, 3) := by decide +kernel
theorem dX8_pairText_5 : decode cX8_pairText 5 = .ok (.iconst 1, 1) := by decide +kernel
theorem dX8_pairText_6 : decode cX8_pairText 6 = .ok (.invokevirtual 149, 3) := by decide +kernel
theorem dX8_pairText_9 : decode cX8_pairText 9 = .ok (.ifCond .eq 8, 3) := by decide +kernel
theorem dX8_pairText_12 : decode cX8_pairText 12 = .ok (.ldc 165, 2) := by decide +kernel
theorem dX8_pairText_14 : decode cX8_pairText 14 = .ok (.goto 14, 3) := by decide +kernel
theorem dX8_pairText_17 : decode cX8_pairText 17 = .ok (.aload_n 0, 1) := by decide +kernel
theorem dX8_pairText_18 : decode cX8_pairText 18 = .ok (.iload_n 1, 1) := by decide +kernel
theorem dX8_pairText_19 : decode cX8_pairText 19 = .ok (.iload_n 2, 1) := by decide +kernel
theorem dX8_pairText_20 : decode cX8_pairText 20 = .ok (.invokevirtual 246, 3) := by decide +kernel
theorem dX8_pairText_23 : decode cX8_pairText 23 = .ok (.bipush 10, 2) := by decide +kernel
theorem dX8_pairText_25 : decode cX8_pairText 25 = .ok (.invokestatic 171, 3) := by decide +kernel
theorem dX8_pairText_28 : decode cX8_pairText 28 = .ok (.areturn, 1) := by decide +kernel
theorem dX8_pairNorm_0 : decode cX8_pairNorm 0 = .ok (.aload_n 0, 1) := by decide +kernel
theorem dX8_pairNorm_1 : decode cX8_pairNorm 1 = .ok (.iload_n 1, 1) := by decide +kernel
theorem dX8_pairNorm_2 : decode cX8_pairNorm 2 = .ok (.invokestatic 145, 3) := by decide +kernel
theorem dX8_pairNorm_5 : decode cX8_pairNorm 5 = .ok (.iconst 1, 1) := by decide +kernel
theorem dX8_pairNorm_6 : decode cX8_pairNorm 6 = .ok (.invokevirtual 149, 3) := by decide +kernel
theorem dX8_pairNorm_9 : decode cX8_pairNorm 9 = .ok (.ifCond .eq 8, 3) := by decide +kernel
theorem dX8_pairNorm_12 : decode cX8_pairNorm 12 = .ok (.ldc 165, 2) := by decide +kernel
theorem dX8_pairNorm_14 : decode cX8_pairNorm 14 = .ok (.goto 29, 3) := by decide +kernel
theorem dX8_pairNorm_17 : decode cX8_pairNorm 17 = .ok (.aload_n 0, 1) := by decide +kernel
theorem dX8_pairNorm_18 : decode cX8_pairNorm 18 = .ok (.getfield 16, 3) := by decide +kernel
theorem dX8_pairNorm_21 : decode cX8_pairNorm 21 = .ok (.iload_n 1, 1) := by decide +kernel
theorem dX8_pairNorm_22 : decode cX8_pairNorm 22 = .ok (.iaload, 1) := by decide +kernel
theorem dX8_pairNorm_23 : decode cX8_pairNorm 23 = .ok (.aload_n 0, 1) := by decide +kernel
theorem dX8_pairNorm_24 : decode cX8_pairNorm 24 = .ok (.getfield 24, 3) := by decide +kernel
theorem dX8_pairNorm_27 : decode cX8_pairNorm 27 = .ok (.iload_n 1, 1) := by decide +kernel
theorem dX8_pairNorm_28 : decode cX8_pairNorm 28 = .ok (.aaload, 1) := by decide +kernel
theorem dX8_pairNorm_29 : decode cX8_pairNorm 29 = .ok (.aload_n 0, 1) := by decide +kernel
theorem dX8_pairNorm_30 : decode cX8_pairNorm 30 = .ok (.getfield 28, 3) := by decide +kernel
theorem dX8_pairNorm_33 : decode cX8_pairNorm 33 = .ok (.iload_n 1, 1) := by decide +kernel
theorem dX8_pairNorm_34 : decode cX8_pairNorm 34 = .ok (.aaload, 1) := by decide +kernel
theorem dX8_pairNorm_35 : decode cX8_pairNorm 35 = .ok (.invokestatic 188, 3) := by decide +kernel
theorem dX8_pairNorm_38 : decode cX8_pairNorm 38 = .ok (.bipush 10, 2) := by decide +kernel
theorem dX8_pairNorm_40 : decode cX8_pairNorm 40 = .ok (.invokestatic 171, 3) := by decide +kernel
theorem dX8_pairNorm_43 : decode cX8_pairNorm 43 = .ok (.areturn, 1) := by decide +kernel
theorem dX8_pairBits_0 : decode cX8_pairBits 0 = .ok (.aload_n 0, 1) := by decide +kernel
theorem dX8_pairBits_1 : decode cX8_pairBits 1 = .ok (.iload_n 1, 1) := by decide +kernel
theorem dX8_pairBits_2 : decode cX8_pairBits 2 = .ok (.invokestatic 145, 3) := by decide +kernel
theorem dX8_pairBits_5 : decode cX8_pairBits 5 = .ok (.iconst 1, 1) := by decide +kernel
theorem dX8_pairBits_6 : decode cX8_pairBits 6 = .ok (.invokevirtual 149, 3) := by decide +kernel
theorem dX8_pairBits_9 : decode cX8_pairBits 9 = .ok (.ifCond .ne 25, 3) := by decide +kernel
theorem dX8_pairBits_12 : decode cX8_pairBits 12 = .ok (.aload_n 0, 1) := by decide +kernel
theorem dX8_pairBits_13 : decode cX8_pairBits 13 = .ok (.iload_n 3, 1) := by decide +kernel
theorem dX8_pairBits_14 : decode cX8_pairBits 14 = .ok (.iconst 0, 1) := by decide +kernel
theorem dX8_pairBits_15 : decode cX8_pairBits 15 = .ok (.iconst 2, 1) := by decide +kernel
theorem dX8_pairBits_16 : decode cX8_pairBits 16 = .ok (.invokestatic 49, 3) := by decide +kernel
theorem dX8_pairBits_19 : decode cX8_pairBits 19 = .ok (.ifCond .ne 7, 3) := by decide +kernel
theorem dX8_pairBits_22 : decode cX8_pairBits 22 = .ok (.iconst 1, 1) := by decide +kernel
theorem dX8_pairBits_23 : decode cX8_pairBits 23 = .ok (.goto 4, 3) := by decide +kernel
theorem dX8_pairBits_26 : decode cX8_pairBits 26 = .ok (.iconst 0, 1) := by decide +kernel
theorem dX8_pairBits_27 : decode cX8_pairBits 27 = .ok (.iconst 2, 1) := by decide +kernel
theorem dX8_pairBits_28 : decode cX8_pairBits 28 = .ok (.invokevirtual 45, 3) := by decide +kernel
theorem dX8_pairBits_31 : decode cX8_pairBits 31 = .ok (.ifCond .eq 7, 3) := by decide +kernel
theorem dX8_pairBits_34 : decode cX8_pairBits 34 = .ok (.iconst 0, 1) := by decide +kernel
theorem dX8_pairBits_35 : decode cX8_pairBits 35 = .ok (.goto 13, 3) := by decide +kernel
theorem dX8_pairBits_38 : decode cX8_pairBits 38 = .ok (.aload_n 0, 1) := by decide +kernel
theorem dX8_pairBits_39 : decode cX8_pairBits 39 = .ok (.iload_n 1, 1) := by decide +kernel
theorem dX8_pairBits_40 : decode cX8_pairBits 40 = .ok (.iload_n 2, 1) := by decide +kernel
theorem dX8_pairBits_41 : decode cX8_pairBits 41 = .ok (.invokevirtual 246, 3) := by decide +kernel
theorem dX8_pairBits_44 : decode cX8_pairBits 44 = .ok (.iload_n 3, 1) := by decide +kernel
theorem dX8_pairBits_45 : decode cX8_pairBits 45 = .ok (.invokestatic 121, 3) := by decide +kernel
theorem dX8_pairBits_48 : decode cX8_pairBits 48 = .ok (.ireturn, 1) := by decide +kernel
theorem dX8_rank_0 : decode cX8_rank 0 = .ok (.aload_n 0, 1) := by decide +kernel
theorem dX8_rank_1 : decode cX8_rank 1 = .ok (.iload_n 1, 1) := by decide +kernel
theorem dX8_rank_2 : decode cX8_rank 2 = .ok (.invokestatic 145, 3) := by decide +kernel
theorem dX8_rank_5 : decode cX8_rank 5 = .ok (.iconst 1, 1) := by decide +kernel
theorem dX8_rank_6 : decode cX8_rank 6 = .ok (.invokevirtual 149, 3) := by decide +kernel
theorem dX8_rank_9 : decode cX8_rank 9 = .ok (.ifCond .eq 5, 3) := by decide +kernel
theorem dX8_rank_12 : decode cX8_rank 12 = .ok (.iconst 0, 1) := by decide +kernel
theorem dX8_rank_13 : decode cX8_rank 13 = .ok (.ireturn, 1) := by decide +kernel
theorem dX8_rank_14 : decode cX8_rank 14 = .ok (.aload_n 0, 1) := by decide +kernel
theorem dX8_rank_15 : decode cX8_rank 15 = .ok (.getfield 16, 3) := by decide +kernel
theorem dX8_rank_18 : decode cX8_rank 18 = .ok (.iload_n 1, 1) := by decide +kernel
theorem dX8_rank_19 : decode cX8_rank 19 = .ok (.iaload, 1) := by decide +kernel
theorem dX8_rank_20 : decode cX8_rank 20 = .ok (.istore_n 2, 1) := by decide +kernel
theorem dX8_rank_21 : decode cX8_rank 21 = .ok (.iload_n 2, 1) := by decide +kernel
theorem dX8_rank_22 : decode cX8_rank 22 = .ok (.aload_n 0, 1) := by decide +kernel
theorem dX8_rank_23 : decode cX8_rank 23 = .ok (.getfield 24, 3) := by decide +kernel
theorem dX8_rank_26 : decode cX8_rank 26 = .ok (.iload_n 1, 1) := by decide +kernel
theorem dX8_rank_27 : decode cX8_rank 27 = .ok (.aaload, 1) := by decide +kernel
theorem dX8_rank_28 : decode cX8_rank 28 = .ok (.aload_n 0, 1) := by decide +kernel
theorem dX8_rank_29 : decode cX8_rank 29 = .ok (.getfield 28, 3) := by decide +kernel
theorem dX8_rank_32 : decode cX8_rank 32 = .ok (.iload_n 1, 1) := by decide +kernel
theorem dX8_rank_33 : decode cX8_rank 33 = .ok (.aaload, 1) := by decide +kernel
theorem dX8_rank_34 : decode cX8_rank 34 = .ok (.invokestatic 188, 3) := by decide +kernel
theorem dX8_rank_37 : decode cX8_rank 37 = .ok (.lconst 1, 1) := by decide +kernel
theorem dX8_rank_38 : decode cX8_rank 38 = .ok (.invokestatic 20, 3) := by decide +kernel
theorem dX8_rank_41 : decode cX8_rank 41 = .ok (.invokestatic 199, 3) := by decide +kernel
theorem dX8_rank_44 : decode cX8_rank 44 = .ok (.ifCond .eq 5, 3) := by decide +kernel
theorem dX8_rank_47 : decode cX8_rank 47 = .ok (.iconst (-1), 1) := by decide +kernel
theorem dX8_rank_48 : decode cX8_rank 48 = .ok (.ireturn, 1) := by decide +kernel
theorem dX8_rank_49 : decode cX8_rank 49 = .ok (.iload_n 2, 1) := by decide +kernel
theorem dX8_rank_50 : decode cX8_rank 50 = .ok (.invokestatic 225, 3) := by decide +kernel
theorem dX8_rank_53 : decode cX8_rank 53 = .ok (.astore_n 3, 1) := by decide +kernel
theorem dX8_rank_54 : decode cX8_rank 54 = .ok (.iconst 2, 1) := by decide +kernel
theorem dX8_rank_55 : decode cX8_rank 55 = .ok (.anewarray 19, 3) := by decide +kernel
theorem dX8_rank_58 : decode cX8_rank 58 = .ok (.dup, 1) := by decide +kernel
theorem dX8_rank_59 : decode cX8_rank 59 = .ok (.iconst 0, 1) := by decide +kernel
theorem dX8_rank_60 : decode cX8_rank 60 = .ok (.lconst 1, 1) := by decide +kernel
theorem dX8_rank_61 : decode cX8_rank 61 = .ok (.invokestatic 20, 3) := by decide +kernel
theorem dX8_rank_64 : decode cX8_rank 64 = .ok (.aastore, 1) := by decide +kernel
theorem dX8_rank_65 : decode cX8_rank 65 = .ok (.dup, 1) := by decide +kernel
theorem dX8_rank_66 : decode cX8_rank 66 = .ok (.iconst 1, 1) := by decide +kernel
theorem dX8_rank_67 : decode cX8_rank 67 = .ok (.lconst 0, 1) := by decide +kernel
theorem dX8_rank_68 : decode cX8_rank 68 = .ok (.invokestatic 20, 3) := by decide +kernel
theorem dX8_rank_71 : decode cX8_rank 71 = .ok (.aastore, 1) := by decide +kernel
theorem dX8_rank_72 : decode cX8_rank 72 = .ok (.astore 4, 2) := by decide +kernel
theorem dX8_rank_74 : decode cX8_rank 74 = .ok (.iconst 0, 1) := by decide +kernel
theorem dX8_rank_75 : decode cX8_rank 75 = .ok (.istore 5, 2) := by decide +kernel
theorem dX8_rank_77 : decode cX8_rank 77 = .ok (.aload 4, 2) := by decide +kernel
theorem dX8_rank_79 : decode cX8_rank 79 = .ok (.iconst 0, 1) := by decide +kernel
theorem dX8_rank_80 : decode cX8_rank 80 = .ok (.aaload, 1) := by decide +kernel
theorem dX8_rank_81 : decode cX8_rank 81 = .ok (.aload_n 0, 1) := by decide +kernel
theorem dX8_rank_82 : decode cX8_rank 82 = .ok (.getfield 24, 3) := by decide +kernel
theorem dX8_rank_85 : decode cX8_rank 85 = .ok (.iload_n 1, 1) := by decide +kernel
theorem dX8_rank_86 : decode cX8_rank 86 = .ok (.aaload, 1) := by decide +kernel
theorem dX8_rank_87 : decode cX8_rank 87 = .ok (.invokestatic 63, 3) := by decide +kernel
theorem dX8_rank_90 : decode cX8_rank 90 = .ok (.ifCond .ne 19, 3) := by decide +kernel
theorem dX8_rank_93 : decode cX8_rank 93 = .ok (.aload 4, 2) := by decide +kernel
theorem dX8_rank_95 : decode cX8_rank 95 = .ok (.iconst 1, 1) := by decide +kernel
theorem dX8_rank_96 : decode cX8_rank 96 = .ok (.aaload, 1) := by decide +kernel
theorem dX8_rank_97 : decode cX8_rank 97 = .ok (.aload_n 0, 1) := by decide +kernel
theorem dX8_rank_98 : decode cX8_rank 98 = .ok (.getfield 28, 3) := by decide +kernel
theorem dX8_rank_101 : decode cX8_rank 101 = .ok (.iload_n 1, 1) := by decide +kernel
theorem dX8_rank_102 : decode cX8_rank 102 = .ok (.aaload, 1) := by decide +kernel
theorem dX8_rank_103 : decode cX8_rank 103 = .ok (.invokestatic 63, 3) := by decide +kernel
theorem dX8_rank_106 : decode cX8_rank 106 = .ok (.ifCond .eq 29, 3) := by decide +kernel
theorem dX8_rank_109 : decode cX8_rank 109 = .ok (.iload_n 2, 1) := by decide +kernel
theorem dX8_rank_110 : decode cX8_rank 110 = .ok (.aload 4, 2) := by decide +kernel
theorem dX8_rank_112 : decode cX8_rank 112 = .ok (.iconst 0, 1) := by decide +kernel
theorem dX8_rank_113 : decode cX8_rank 113 = .ok (.aaload, 1) := by decide +kernel
theorem dX8_rank_114 : decode cX8_rank 114 = .ok (.aload 4, 2) := by decide +kernel
theorem dX8_rank_116 : decode cX8_rank 116 = .ok (.iconst 1, 1) := by decide +kernel
theorem dX8_rank_117 : decode cX8_rank 117 = .ok (.aaload, 1) := by decide +kernel
theorem dX8_rank_118 : decode cX8_rank 118 = .ok (.aload_n 3, 1) := by decide +kernel
theorem dX8_rank_119 : decode cX8_rank 119 = .ok (.iconst 0, 1) := by decide +kernel
theorem dX8_rank_120 : decode cX8_rank 120 = .ok (.aaload, 1) := by decide +kernel
theorem dX8_rank_121 : decode cX8_rank 121 = .ok (.aload_n 3, 1) := by decide +kernel
theorem dX8_rank_122 : decode cX8_rank 122 = .ok (.iconst 1, 1) := by decide +kernel
theorem dX8_rank_123 : decode cX8_rank 123 = .ok (.aaload, 1) := by decide +kernel
theorem dX8_rank_124 : decode cX8_rank 124 = .ok (.invokestatic 239, 3) := by decide +kernel
theorem dX8_rank_127 : decode cX8_rank 127 = .ok (.astore 4, 2) := by decide +kernel
theorem dX8_rank_129 : decode cX8_rank 129 = .ok (.iinc 5 1, 3) := by decide +kernel
theorem dX8_rank_132 : decode cX8_rank 132 = .ok (.goto (-55), 3) := by decide +kernel
theorem dX8_rank_135 : decode cX8_rank 135 = .ok (.iload 5, 2) := by decide +kernel
theorem dX8_rank_137 : decode cX8_rank 137 = .ok (.ireturn, 1) := by decide +kernel
theorem dX8_order_0 : decode cX8_order 0 = .ok (.aload_n 0, 1) := by decide +kernel
theorem dX8_order_1 : decode cX8_order 1 = .ok (.iload_n 1, 1) := by decide +kernel
theorem dX8_order_2 : decode cX8_order 2 = .ok (.invokestatic 145, 3) := by decide +kernel
theorem dX8_order_5 : decode cX8_order 5 = .ok (.ifCond .ne 10, 3) := by decide +kernel
theorem dX8_order_8 : decode cX8_order 8 = .ok (.iload_n 2, 1) := by decide +kernel
theorem dX8_order_9 : decode cX8_order 9 = .ok (.invokestatic 145, 3) := by decide +kernel
theorem dX8_order_12 : decode cX8_order 12 = .ok (.ifCond .eq 7, 3) := by decide +kernel
theorem dX8_order_15 : decode cX8_order 15 = .ok (.iconst 1, 1) := by decide +kernel
theorem dX8_order_16 : decode cX8_order 16 = .ok (.goto 4, 3) := by decide +kernel
theorem dX8_order_19 : decode cX8_order 19 = .ok (.iconst 0, 1) := by decide +kernel
theorem dX8_order_20 : decode cX8_order 20 = .ok (.iconst 1, 1) := by decide +kernel
theorem dX8_order_21 : decode cX8_order 21 = .ok (.invokevirtual 149, 3) := by decide +kernel
theorem dX8_order_24 : decode cX8_order 24 = .ok (.ifCond .eq 7, 3) := by decide +kernel
theorem dX8_order_27 : decode cX8_order 27 = .ok (.iconst 0, 1) := by decide +kernel
theorem dX8_order_28 : decode cX8_order 28 = .ok (.goto 18, 3) := by decide +kernel
theorem dX8_order_31 : decode cX8_order 31 = .ok (.aload_n 0, 1) := by decide +kernel
theorem dX8_order_32 : decode cX8_order 32 = .ok (.iload_n 1, 1) := by decide +kernel
theorem dX8_order_33 : decode cX8_order 33 = .ok (.iload_n 3, 1) := by decide +kernel
theorem dX8_order_34 : decode cX8_order 34 = .ok (.invokevirtual 246, 3) := by decide +kernel
theorem dX8_order_37 : decode cX8_order 37 = .ok (.aload_n 0, 1) := by decide +kernel
theorem dX8_order_38 : decode cX8_order 38 = .ok (.iload_n 2, 1) := by decide +kernel
theorem dX8_order_39 : decode cX8_order 39 = .ok (.iload_n 3, 1) := by decide +kernel
theorem dX8_order_40 : decode cX8_order 40 = .ok (.invokevirtual 246, 3) := by decide +kernel
theorem dX8_order_43 : decode cX8_order 43 = .ok (.invokestatic 199, 3) := by decide +kernel
theorem dX8_order_46 : decode cX8_order 46 = .ok (.ireturn, 1) := by decide +kernel
theorem dX8_isSame_0 : decode cX8_isSame 0 = .ok (.aload_n 0, 1) := by decide +kernel
theorem dX8_isSame_1 : decode cX8_isSame 1 = .ok (.iload_n 1, 1) := by decide +kernel
theorem dX8_isSame_2 : decode cX8_isSame 2 = .ok (.invokestatic 145, 3) := by decide +kernel
theorem dX8_isSame_5 : decode cX8_isSame 5 = .ok (.ifCond .ne 10, 3) := by decide +kernel
theorem dX8_isSame_8 : decode cX8_isSame 8 = .ok (.iload_n 2, 1) := by decide +kernel
theorem dX8_isSame_9 : decode cX8_isSame 9 = .ok (.invokestatic 145, 3) := by decide +kernel
theorem dX8_isSame_12 : decode cX8_isSame 12 = .ok (.ifCond .eq 7, 3) := by decide +kernel
theorem dX8_isSame_15 : decode cX8_isSame 15 = .ok (.iconst 1, 1) := by decide +kernel
theorem dX8_isSame_16 : decode cX8_isSame 16 = .ok (.goto 4, 3) := by decide +kernel
theorem dX8_isSame_19 : decode cX8_isSame 19 = .ok (.iconst 0, 1) := by decide +kernel
theorem dX8_isSame_20 : decode cX8_isSame 20 = .ok (.iconst 1, 1) := by decide +kernel
theorem dX8_isSame_21 : decode cX8_isSame 21 = .ok (.invokevirtual 149, 3) := by decide +kernel
theorem dX8_isSame_24 : decode cX8_isSame 24 = .ok (.ifCond .ne 49, 3) := by decide +kernel
theorem dX8_isSame_27 : decode cX8_isSame 27 = .ok (.aload_n 0, 1) := by decide +kernel
theorem dX8_isSame_28 : decode cX8_isSame 28 = .ok (.getfield 16, 3) := by decide +kernel
theorem dX8_isSame_31 : decode cX8_isSame 31 = .ok (.iload_n 1, 1) := by decide +kernel
theorem dX8_isSame_32 : decode cX8_isSame 32 = .ok (.iaload, 1) := by decide +kernel
theorem dX8_isSame_33 : decode cX8_isSame 33 = .ok (.aload_n 0, 1) := by decide +kernel
theorem dX8_isSame_34 : decode cX8_isSame 34 = .ok (.getfield 24, 3) := by decide +kernel
theorem dX8_isSame_37 : decode cX8_isSame 37 = .ok (.iload_n 1, 1) := by decide +kernel
theorem dX8_isSame_38 : decode cX8_isSame 38 = .ok (.aaload, 1) := by decide +kernel
theorem dX8_isSame_39 : decode cX8_isSame 39 = .ok (.aload_n 0, 1) := by decide +kernel
theorem dX8_isSame_40 : decode cX8_isSame 40 = .ok (.getfield 28, 3) := by decide +kernel
theorem dX8_isSame_43 : decode cX8_isSame 43 = .ok (.iload_n 1, 1) := by decide +kernel
theorem dX8_isSame_44 : decode cX8_isSame 44 = .ok (.aaload, 1) := by decide +kernel
theorem dX8_isSame_45 : decode cX8_isSame 45 = .ok (.aload_n 0, 1) := by decide +kernel
theorem dX8_isSame_46 : decode cX8_isSame 46 = .ok (.getfield 16, 3) := by decide +kernel
theorem dX8_isSame_49 : decode cX8_isSame 49 = .ok (.iload_n 2, 1) := by decide +kernel
theorem dX8_isSame_50 : decode cX8_isSame 50 = .ok (.iaload, 1) := by decide +kernel
theorem dX8_isSame_51 : decode cX8_isSame 51 = .ok (.aload_n 0, 1) := by decide +kernel
theorem dX8_isSame_52 : decode cX8_isSame 52 = .ok (.getfield 24, 3) := by decide +kernel
theorem dX8_isSame_55 : decode cX8_isSame 55 = .ok (.iload_n 2, 1) := by decide +kernel
theorem dX8_isSame_56 : decode cX8_isSame 56 = .ok (.aaload, 1) := by decide +kernel
theorem dX8_isSame_57 : decode cX8_isSame 57 = .ok (.aload_n 0, 1) := by decide +kernel
theorem dX8_isSame_58 : decode cX8_isSame 58 = .ok (.getfield 28, 3) := by decide +kernel
theorem dX8_isSame_61 : decode cX8_isSame 61 = .ok (.iload_n 2, 1) := by decide +kernel
theorem dX8_isSame_62 : decode cX8_isSame 62 = .ok (.aaload, 1) := by decide +kernel
theorem dX8_isSame_63 : decode cX8_isSame 63 = .ok (.invokestatic 228, 3) := by decide +kernel
theorem dX8_isSame_66 : decode cX8_isSame 66 = .ok (.ifCond .eq 7, 3) := by decide +kernel
theorem dX8_isSame_69 : decode cX8_isSame 69 = .ok (.iconst 1, 1) := by decide +kernel
theorem dX8_isSame_70 : decode cX8_isSame 70 = .ok (.goto 4, 3) := by decide +kernel
theorem dX8_isSame_73 : decode cX8_isSame 73 = .ok (.iconst 0, 1) := by decide +kernel
theorem dX8_isSame_74 : decode cX8_isSame 74 = .ok (.ireturn, 1) := by decide +kernel
theorem dX8_extreme_0 : decode cX8_extreme 0 = .ok (.aload_n 0, 1) := by decide +kernel
theorem dX8_extreme_1 : decode cX8_extreme 1 = .ok (.iconst 0, 1) := by decide +kernel
theorem dX8_extreme_2 : decode cX8_extreme 2 = .ok (.putfield 41, 3) := by decide +kernel
theorem dX8_extreme_5 : decode cX8_extreme 5 = .ok (.aload_n 0, 1) := by decide +kernel
theorem dX8_extreme_6 : decode cX8_extreme 6 = .ok (.iconst 0, 1) := by decide +kernel
theorem dX8_extreme_7 : decode cX8_extreme 7 = .ok (.iload_n 1, 1) := by decide +kernel
theorem dX8_extreme_8 : decode cX8_extreme 8 = .ok (.invokevirtual 246, 3) := by decide +kernel
theorem dX8_extreme_11 : decode cX8_extreme 11 = .ok (.astore_n 3, 1) := by decide +kernel
theorem dX8_extreme_12 : decode cX8_extreme 12 = .ok (.iconst 1, 1) := by decide +kernel
theorem dX8_extreme_13 : decode cX8_extreme 13 = .ok (.istore 4, 2) := by decide +kernel
theorem dX8_extreme_15 : decode cX8_extreme 15 = .ok (.iload 4, 2) := by decide +kernel
theorem dX8_extreme_17 : decode cX8_extreme 17 = .ok (.iconst 3, 1) := by decide +kernel
theorem dX8_extreme_18 : decode cX8_extreme 18 = .ok (.if_icmp .ge 40, 3) := by decide +kernel
theorem dX8_extreme_21 : decode cX8_extreme 21 = .ok (.aload_n 0, 1) := by decide +kernel
theorem dX8_extreme_22 : decode cX8_extreme 22 = .ok (.iload 4, 2) := by decide +kernel
theorem dX8_extreme_24 : decode cX8_extreme 24 = .ok (.iload_n 1, 1) := by decide +kernel
theorem dX8_extreme_25 : decode cX8_extreme 25 = .ok (.invokevirtual 246, 3) := by decide +kernel
theorem dX8_extreme_28 : decode cX8_extreme 28 = .ok (.aload_n 3, 1) := by decide +kernel
theorem dX8_extreme_29 : decode cX8_extreme 29 = .ok (.invokestatic 199, 3) := by decide +kernel
theorem dX8_extreme_32 : decode cX8_extreme 32 = .ok (.iload_n 2, 1) := by decide +kernel
theorem dX8_extreme_33 : decode cX8_extreme 33 = .ok (.ifCond .eq 7, 3) := by decide +kernel
theorem dX8_extreme_36 : decode cX8_extreme 36 = .ok (.iconst 1, 1) := by decide +kernel
theorem dX8_extreme_37 : decode cX8_extreme 37 = .ok (.goto 4, 3) := by decide +kernel
theorem dX8_extreme_40 : decode cX8_extreme 40 = .ok (.iconst (-1), 1) := by decide +kernel
theorem dX8_extreme_41 : decode cX8_extreme 41 = .ok (.if_icmp .ne 11, 3) := by decide +kernel
theorem dX8_extreme_44 : decode cX8_extreme 44 = .ok (.aload_n 0, 1) := by decide +kernel
theorem dX8_extreme_45 : decode cX8_extreme 45 = .ok (.iload 4, 2) := by decide +kernel
theorem dX8_extreme_47 : decode cX8_extreme 47 = .ok (.iload_n 1, 1) := by decide +kernel
theorem dX8_extreme_48 : decode cX8_extreme 48 = .ok (.invokevirtual 246, 3) := by decide +kernel
theorem dX8_extreme_51 : decode cX8_extreme 51 = .ok (.astore_n 3, 1) := by decide +kernel
theorem dX8_extreme_52 : decode cX8_extreme 52 = .ok (.iinc 4 1, 3) := by decide +kernel
theorem dX8_extreme_55 : decode cX8_extreme 55 = .ok (.goto (-40), 3) := by decide +kernel
theorem dX8_extreme_58 : decode cX8_extreme 58 = .ok (.aload_n 3, 1) := by decide +kernel
theorem dX8_extreme_59 : decode cX8_extreme 59 = .ok (.bipush 10, 2) := by decide +kernel
theorem dX8_extreme_61 : decode cX8_extreme 61 = .ok (.invokestatic 171, 3) := by decide +kernel
theorem dX8_extreme_64 : decode cX8_extreme 64 = .ok (.areturn, 1) := by decide +kernel
theorem dX8_powered_0 : decode cX8_powered 0 = .ok (.iload_n 0, 1) := by decide +kernel
theorem dX8_powered_1 : decode cX8_powered 1 = .ok (.iload_n 2, 1) := by decide +kernel
theorem dX8_powered_2 : decode cX8_powered 2 = .ok (.irem, 1) := by decide +kernel
theorem dX8_powered_3 : decode cX8_powered 3 = .ok (.iload_n 2, 1) := by decide +kernel
theorem dX8_powered_4 : decode cX8_powered 4 = .ok (.iadd, 1) := by decide +kernel
theorem dX8_powered_5 : decode cX8_powered 5 = .ok (.iload_n 2, 1) := by decide +kernel
theorem dX8_powered_6 : decode cX8_powered 6 = .ok (.irem, 1) := by decide +kernel
theorem dX8_powered_7 : decode cX8_powered 7 = .ok (.istore_n 3, 1) := by decide +kernel
theorem dX8_powered_8 : decode cX8_powered 8 = .ok (.iconst 1, 1) := by decide +kernel
theorem dX8_powered_9 : decode cX8_powered 9 = .ok (.istore 4, 2) := by decide +kernel
theorem dX8_powered_11 : decode cX8_powered 11 = .ok (.iconst 0, 1) := by decide +kernel
theorem dX8_powered_12 : decode cX8_powered 12 = .ok (.istore 5, 2) := by decide +kernel
theorem dX8_powered_14 : decode cX8_powered 14 = .ok (.iload 5, 2) := by decide +kernel
theorem dX8_powered_16 : decode cX8_powered 16 = .ok (.iload_n 1, 1) := by decide +kernel
theorem dX8_powered_17 : decode cX8_powered 17 = .ok (.if_icmp .ge 17, 3) := by decide +kernel
theorem dX8_powered_20 : decode cX8_powered 20 = .ok (.iload 4, 2) := by decide +kernel
theorem dX8_powered_22 : decode cX8_powered 22 = .ok (.iload_n 3, 1) := by decide +kernel
theorem dX8_powered_23 : decode cX8_powered 23 = .ok (.imul, 1) := by decide +kernel
theorem dX8_powered_24 : decode cX8_powered 24 = .ok (.iload_n 2, 1) := by decide +kernel
theorem dX8_powered_25 : decode cX8_powered 25 = .ok (.irem, 1) := by decide +kernel
theorem dX8_powered_26 : decode cX8_powered 26 = .ok (.istore 4, 2) := by decide +kernel
theorem dX8_powered_28 : decode cX8_powered 28 = .ok (.iinc 5 1, 3) := by decide +kernel
theorem dX8_powered_31 : decode cX8_powered 31 = .ok (.goto (-17), 3) := by decide +kernel
theorem dX8_powered_34 : decode cX8_powered 34 = .ok (.iload 4, 2) := by decide +kernel
theorem dX8_powered_36 : decode cX8_powered 36 = .ok (.ireturn, 1) := by decide +kernel
theorem dX8_isNumberPrime_0 : decode cX8_isNumberPrime 0 = .ok (.iconst 2, 1) := by decide +kernel
theorem dX8_isNumberPrime_1 : decode cX8_isNumberPrime 1 = .ok (.istore_n 1, 1) := by decide +kernel
theorem dX8_isNumberPrime_2 : decode cX8_isNumberPrime 2 = .ok (.iload_n 1, 1) := by decide +kernel
theorem dX8_isNumberPrime_3 : decode cX8_isNumberPrime 3 = .ok (.iload_n 1, 1) := by decide +kernel
theorem dX8_isNumberPrime_4 : decode cX8_isNumberPrime 4 = .ok (.imul, 1) := by decide +kernel
theorem dX8_isNumberPrime_5 : decode cX8_isNumberPrime 5 = .ok (.iload_n 0, 1) := by decide +kernel
theorem dX8_isNumberPrime_6 : decode cX8_isNumberPrime 6 = .ok (.if_icmp .gt 17, 3) := by decide +kernel
theorem dX8_isNumberPrime_9 : decode cX8_isNumberPrime 9 = .ok (.iload_n 0, 1) := by decide +kernel
theorem dX8_isNumberPrime_10 : decode cX8_isNumberPrime 10 = .ok (.iload_n 1, 1) := by decide +kernel
theorem dX8_isNumberPrime_11 : decode cX8_isNumberPrime 11 = .ok (.irem, 1) := by decide +kernel
theorem dX8_isNumberPrime_12 : decode cX8_isNumberPrime 12 = .ok (.ifCond .ne 5, 3) := by decide +kernel
theorem dX8_isNumberPrime_15 : decode cX8_isNumberPrime 15 = .ok (.iconst 0, 1) := by decide +kernel
theorem dX8_isNumberPrime_16 : decode cX8_isNumberPrime 16 = .ok (.ireturn, 1) := by decide +kernel
theorem dX8_isNumberPrime_17 : decode cX8_isNumberPrime 17 = .ok (.iinc 1 1, 3) := by decide +kernel
theorem dX8_isNumberPrime_20 : decode cX8_isNumberPrime 20 = .ok (.goto (-18), 3) := by decide +kernel
theorem dX8_isNumberPrime_23 : decode cX8_isNumberPrime 23 = .ok (.iload_n 0, 1) := by decide +kernel
theorem dX8_isNumberPrime_24 : decode cX8_isNumberPrime 24 = .ok (.iconst 1, 1) := by decide +kernel
theorem dX8_isNumberPrime_25 : decode cX8_isNumberPrime 25 = .ok (.if_icmp .le 7, 3) := by decide +kernel
theorem dX8_isNumberPrime_28 : decode cX8_isNumberPrime 28 = .ok (.iconst 1, 1) := by decide +kernel
theorem dX8_isNumberPrime_29 : decode cX8_isNumberPrime 29 = .ok (.goto 4, 3) := by decide +kernel
theorem dX8_isNumberPrime_32 : decode cX8_isNumberPrime 32 = .ok (.iconst 0, 1) := by decide +kernel
theorem dX8_isNumberPrime_33 : decode cX8_isNumberPrime 33 = .ok (.ireturn, 1) := by decide +kernel
theorem dX8_witness_0 : decode cX8_witness 0 = .ok (.iconst 2, 1) := by decide +kernel
theorem dX8_witness_1 : decode cX8_witness 1 = .ok (.istore_n 1, 1) := by decide +kernel
theorem dX8_witness_2 : decode cX8_witness 2 = .ok (.iload_n 1, 1) := by decide +kernel
theorem dX8_witness_3 : decode cX8_witness 3 = .ok (.iload_n 0, 1) := by decide +kernel
theorem dX8_witness_4 : decode cX8_witness 4 = .ok (.iconst 1, 1) := by decide +kernel
theorem dX8_witness_5 : decode cX8_witness 5 = .ok (.isub, 1) := by decide +kernel
theorem dX8_witness_6 : decode cX8_witness 6 = .ok (.iconst 2, 1) := by decide +kernel
theorem dX8_witness_7 : decode cX8_witness 7 = .ok (.idiv, 1) := by decide +kernel
theorem dX8_witness_8 : decode cX8_witness 8 = .ok (.iload_n 0, 1) := by decide +kernel
theorem dX8_witness_9 : decode cX8_witness 9 = .ok (.invokestatic 250, 3) := by decide +kernel
theorem dX8_witness_12 : decode cX8_witness 12 = .ok (.iload_n 0, 1) := by decide +kernel
theorem dX8_witness_13 : decode cX8_witness 13 = .ok (.iconst 1, 1) := by decide +kernel
theorem dX8_witness_14 : decode cX8_witness 14 = .ok (.isub, 1) := by decide +kernel
theorem dX8_witness_15 : decode cX8_witness 15 = .ok (.if_icmp .eq 9, 3) := by decide +kernel
theorem dX8_witness_18 : decode cX8_witness 18 = .ok (.iinc 1 1, 3) := by decide +kernel
theorem dX8_witness_21 : decode cX8_witness 21 = .ok (.goto (-19), 3) := by decide +kernel
theorem dX8_witness_24 : decode cX8_witness 24 = .ok (.iload_n 1, 1) := by decide +kernel
theorem dX8_witness_25 : decode cX8_witness 25 = .ok (.ireturn, 1) := by decide +kernel
theorem dX8_imaginary_0 : decode cX8_imaginary 0 = .ok (.iload_n 0, 1) := by decide +kernel
theorem dX8_imaginary_1 : decode cX8_imaginary 1 = .ok (.invokestatic 254, 3) := by decide +kernel
theorem dX8_imaginary_4 : decode cX8_imaginary 4 = .ok (.iload_n 0, 1) := by decide +kernel
theorem dX8_imaginary_5 : decode cX8_imaginary 5 = .ok (.iconst 1, 1) := by decide +kernel
theorem dX8_imaginary_6 : decode cX8_imaginary 6 = .ok (.isub, 1) := by decide +kernel
theorem dX8_imaginary_7 : decode cX8_imaginary 7 = .ok (.iconst 4, 1) := by decide +kernel
theorem dX8_imaginary_8 : decode cX8_imaginary 8 = .ok (.idiv, 1) := by decide +kernel
theorem dX8_imaginary_9 : decode cX8_imaginary 9 = .ok (.iload_n 0, 1) := by decide +kernel
theorem dX8_imaginary_10 : decode cX8_imaginary 10 = .ok (.invokestatic 250, 3) := by decide +kernel
theorem dX8_imaginary_13 : decode cX8_imaginary 13 = .ok (.ireturn, 1) := by decide +kernel
theorem dX8_begun_0 : decode cX8_begun 0 = .ok (.bipush 6, 2) := by decide +kernel
theorem dX8_begun_2 : decode cX8_begun 2 = .ok (.newarray .int, 2) := by decide +kernel
theorem dX8_begun_4 : decode cX8_begun 4 = .ok (.dup, 1) := by decide +kernel
theorem dX8_begun_5 : decode cX8_begun 5 = .ok (.iconst 0, 1) := by decide +kernel
theorem dX8_begun_6 : decode cX8_begun 6 = .ok (.iload_n 0, 1) := by decide +kernel
theorem dX8_begun_7 : decode cX8_begun 7 = .ok (.iastore, 1) := by decide +kernel
theorem dX8_begun_8 : decode cX8_begun 8 = .ok (.dup, 1) := by decide +kernel
theorem dX8_begun_9 : decode cX8_begun 9 = .ok (.iconst 1, 1) := by decide +kernel
theorem dX8_begun_10 : decode cX8_begun 10 = .ok (.iload_n 0, 1) := by decide +kernel
theorem dX8_begun_11 : decode cX8_begun 11 = .ok (.iastore, 1) := by decide +kernel
theorem dX8_begun_12 : decode cX8_begun 12 = .ok (.dup, 1) := by decide +kernel
theorem dX8_begun_13 : decode cX8_begun 13 = .ok (.iconst 2, 1) := by decide +kernel
theorem dX8_begun_14 : decode cX8_begun 14 = .ok (.iload_n 0, 1) := by decide +kernel
theorem dX8_begun_15 : decode cX8_begun 15 = .ok (.invokestatic 257, 3) := by decide +kernel
theorem dX8_begun_18 : decode cX8_begun 18 = .ok (.iastore, 1) := by decide +kernel
theorem dX8_begun_19 : decode cX8_begun 19 = .ok (.dup, 1) := by decide +kernel
theorem dX8_begun_20 : decode cX8_begun 20 = .ok (.iconst 3, 1) := by decide +kernel
theorem dX8_begun_21 : decode cX8_begun 21 = .ok (.iconst 0, 1) := by decide +kernel
theorem dX8_begun_22 : decode cX8_begun 22 = .ok (.iastore, 1) := by decide +kernel
theorem dX8_begun_23 : decode cX8_begun 23 = .ok (.dup, 1) := by decide +kernel
theorem dX8_begun_24 : decode cX8_begun 24 = .ok (.iconst 4, 1) := by decide +kernel
theorem dX8_begun_25 : decode cX8_begun 25 = .ok (.iconst 1, 1) := by decide +kernel
theorem dX8_begun_26 : decode cX8_begun 26 = .ok (.iastore, 1) := by decide +kernel
theorem dX8_begun_27 : decode cX8_begun 27 = .ok (.dup, 1) := by decide +kernel
theorem dX8_begun_28 : decode cX8_begun 28 = .ok (.iconst 5, 1) := by decide +kernel
theorem dX8_begun_29 : decode cX8_begun 29 = .ok (.iconst 0, 1) := by decide +kernel
theorem dX8_begun_30 : decode cX8_begun 30 = .ok (.iastore, 1) := by decide +kernel
theorem dX8_begun_31 : decode cX8_begun 31 = .ok (.areturn, 1) := by decide +kernel
theorem dX8_step_0 : decode cX8_step 0 = .ok (.aload_n 0, 1) := by decide +kernel
theorem dX8_step_1 : decode cX8_step 1 = .ok (.iconst 1, 1) := by decide +kernel
theorem dX8_step_2 : decode cX8_step 2 = .ok (.iaload, 1) := by decide +kernel
theorem dX8_step_3 : decode cX8_step 3 = .ok (.aload_n 0, 1) := by decide +kernel
theorem dX8_step_4 : decode cX8_step 4 = .ok (.iconst 2, 1) := by decide +kernel
theorem dX8_step_5 : decode cX8_step 5 = .ok (.iaload, 1) := by decide +kernel
theorem dX8_step_6 : decode cX8_step 6 = .ok (.idiv, 1) := by decide +kernel
theorem dX8_step_7 : decode cX8_step 7 = .ok (.istore_n 1, 1) := by decide +kernel
theorem dX8_step_8 : decode cX8_step 8 = .ok (.bipush 6, 2) := by decide +kernel
theorem dX8_step_10 : decode cX8_step 10 = .ok (.newarray .int, 2) := by decide +kernel
theorem dX8_step_12 : decode cX8_step 12 = .ok (.dup, 1) := by decide +kernel
theorem dX8_step_13 : decode cX8_step 13 = .ok (.iconst 0, 1) := by decide +kernel
theorem dX8_step_14 : decode cX8_step 14 = .ok (.aload_n 0, 1) := by decide +kernel
theorem dX8_step_15 : decode cX8_step 15 = .ok (.iconst 0, 1) := by decide +kernel
theorem dX8_step_16 : decode cX8_step 16 = .ok (.iaload, 1) := by decide +kernel
theorem dX8_step_17 : decode cX8_step 17 = .ok (.iastore, 1) := by decide +kernel
theorem dX8_step_18 : decode cX8_step 18 = .ok (.dup, 1) := by decide +kernel
theorem dX8_step_19 : decode cX8_step 19 = .ok (.iconst 1, 1) := by decide +kernel
theorem dX8_step_20 : decode cX8_step 20 = .ok (.aload_n 0, 1) := by decide +kernel
theorem dX8_step_21 : decode cX8_step 21 = .ok (.iconst 2, 1) := by decide +kernel
theorem dX8_step_22 : decode cX8_step 22 = .ok (.iaload, 1) := by decide +kernel
theorem dX8_step_23 : decode cX8_step 23 = .ok (.iastore, 1) := by decide +kernel
theorem dX8_step_24 : decode cX8_step 24 = .ok (.dup, 1) := by decide +kernel
theorem dX8_step_25 : decode cX8_step 25 = .ok (.iconst 2, 1) := by decide +kernel
theorem dX8_step_26 : decode cX8_step 26 = .ok (.aload_n 0, 1) := by decide +kernel
theorem dX8_step_27 : decode cX8_step 27 = .ok (.iconst 1, 1) := by decide +kernel
theorem dX8_step_28 : decode cX8_step 28 = .ok (.iaload, 1) := by decide +kernel
theorem dX8_step_29 : decode cX8_step 29 = .ok (.iload_n 1, 1) := by decide +kernel
theorem dX8_step_30 : decode cX8_step 30 = .ok (.aload_n 0, 1) := by decide +kernel
theorem dX8_step_31 : decode cX8_step 31 = .ok (.iconst 2, 1) := by decide +kernel
theorem dX8_step_32 : decode cX8_step 32 = .ok (.iaload, 1) := by decide +kernel
theorem dX8_step_33 : decode cX8_step 33 = .ok (.imul, 1) := by decide +kernel
theorem dX8_step_34 : decode cX8_step 34 = .ok (.isub, 1) := by decide +kernel
theorem dX8_step_35 : decode cX8_step 35 = .ok (.iastore, 1) := by decide +kernel
theorem dX8_step_36 : decode cX8_step 36 = .ok (.dup, 1) := by decide +kernel
theorem dX8_step_37 : decode cX8_step 37 = .ok (.iconst 3, 1) := by decide +kernel
theorem dX8_step_38 : decode cX8_step 38 = .ok (.aload_n 0, 1) := by decide +kernel
theorem dX8_step_39 : decode cX8_step 39 = .ok (.iconst 4, 1) := by decide +kernel
theorem dX8_step_40 : decode cX8_step 40 = .ok (.iaload, 1) := by decide +kernel
theorem dX8_step_41 : decode cX8_step 41 = .ok (.iastore, 1) := by decide +kernel
theorem dX8_step_42 : decode cX8_step 42 = .ok (.dup, 1) := by decide +kernel
theorem dX8_step_43 : decode cX8_step 43 = .ok (.iconst 4, 1) := by decide +kernel
theorem dX8_step_44 : decode cX8_step 44 = .ok (.aload_n 0, 1) := by decide +kernel
theorem dX8_step_45 : decode cX8_step 45 = .ok (.iconst 3, 1) := by decide +kernel
theorem dX8_step_46 : decode cX8_step 46 = .ok (.iaload, 1) := by decide +kernel
theorem dX8_step_47 : decode cX8_step 47 = .ok (.iload_n 1, 1) := by decide +kernel
theorem dX8_step_48 : decode cX8_step 48 = .ok (.aload_n 0, 1) := by decide +kernel
theorem dX8_step_49 : decode cX8_step 49 = .ok (.iconst 4, 1) := by decide +kernel
theorem dX8_step_50 : decode cX8_step 50 = .ok (.iaload, 1) := by decide +kernel
theorem dX8_step_51 : decode cX8_step 51 = .ok (.imul, 1) := by decide +kernel
theorem dX8_step_52 : decode cX8_step 52 = .ok (.isub, 1) := by decide +kernel
theorem dX8_step_53 : decode cX8_step 53 = .ok (.iastore, 1) := by decide +kernel
theorem dX8_step_54 : decode cX8_step 54 = .ok (.dup, 1) := by decide +kernel
theorem dX8_step_55 : decode cX8_step 55 = .ok (.iconst 5, 1) := by decide +kernel
theorem dX8_step_56 : decode cX8_step 56 = .ok (.aload_n 0, 1) := by decide +kernel
theorem dX8_step_57 : decode cX8_step 57 = .ok (.iconst 5, 1) := by decide +kernel
theorem dX8_step_58 : decode cX8_step 58 = .ok (.iaload, 1) := by decide +kernel
theorem dX8_step_59 : decode cX8_step 59 = .ok (.iconst 1, 1) := by decide +kernel
theorem dX8_step_60 : decode cX8_step 60 = .ok (.iadd, 1) := by decide +kernel
theorem dX8_step_61 : decode cX8_step 61 = .ok (.iastore, 1) := by decide +kernel
theorem dX8_step_62 : decode cX8_step 62 = .ok (.astore_n 2, 1) := by decide +kernel
theorem dX8_step_63 : decode cX8_step 63 = .ok (.iconst 0, 1) := by decide +kernel
theorem dX8_step_64 : decode cX8_step 64 = .ok (.istore_n 3, 1) := by decide +kernel
theorem dX8_step_65 : decode cX8_step 65 = .ok (.iload_n 3, 1) := by decide +kernel
theorem dX8_step_66 : decode cX8_step 66 = .ok (.bipush 6, 2) := by decide +kernel
theorem dX8_step_68 : decode cX8_step 68 = .ok (.if_icmp .ge 15, 3) := by decide +kernel
theorem dX8_step_71 : decode cX8_step 71 = .ok (.aload_n 0, 1) := by decide +kernel
theorem dX8_step_72 : decode cX8_step 72 = .ok (.iload_n 3, 1) := by decide +kernel
theorem dX8_step_73 : decode cX8_step 73 = .ok (.aload_n 2, 1) := by decide +kernel
theorem dX8_step_74 : decode cX8_step 74 = .ok (.iload_n 3, 1) := by decide +kernel
theorem dX8_step_75 : decode cX8_step 75 = .ok (.iaload, 1) := by decide +kernel
theorem dX8_step_76 : decode cX8_step 76 = .ok (.iastore, 1) := by decide +kernel
theorem dX8_step_77 : decode cX8_step 77 = .ok (.iinc 3 1, 3) := by decide +kernel
theorem dX8_step_80 : decode cX8_step 80 = .ok (.goto (-15), 3) := by decide +kernel
theorem dX8_step_83 : decode cX8_step 83 = .ok (.return_, 1) := by decide +kernel
theorem dX8_settled_0 : decode cX8_settled 0 = .ok (.iconst 0, 1) := by decide +kernel
theorem dX8_settled_1 : decode cX8_settled 1 = .ok (.istore_n 1, 1) := by decide +kernel
theorem dX8_settled_2 : decode cX8_settled 2 = .ok (.aload_n 0, 1) := by decide +kernel
theorem dX8_settled_3 : decode cX8_settled 3 = .ok (.iconst 1, 1) := by decide +kernel
theorem dX8_settled_4 : decode cX8_settled 4 = .ok (.iaload, 1) := by decide +kernel
theorem dX8_settled_5 : decode cX8_settled 5 = .ok (.aload_n 0, 1) := by decide +kernel
theorem dX8_settled_6 : decode cX8_settled 6 = .ok (.iconst 1, 1) := by decide +kernel
theorem dX8_settled_7 : decode cX8_settled 7 = .ok (.iaload, 1) := by decide +kernel
theorem dX8_settled_8 : decode cX8_settled 8 = .ok (.imul, 1) := by decide +kernel
theorem dX8_settled_9 : decode cX8_settled 9 = .ok (.aload_n 0, 1) := by decide +kernel
theorem dX8_settled_10 : decode cX8_settled 10 = .ok (.iconst 0, 1) := by decide +kernel
theorem dX8_settled_11 : decode cX8_settled 11 = .ok (.iaload, 1) := by decide +kernel
theorem dX8_settled_12 : decode cX8_settled 12 = .ok (.if_icmp .lt 13, 3) := by decide +kernel
theorem dX8_settled_15 : decode cX8_settled 15 = .ok (.aload_n 0, 1) := by decide +kernel
theorem dX8_settled_16 : decode cX8_settled 16 = .ok (.invokestatic 260, 3) := by decide +kernel
theorem dX8_settled_19 : decode cX8_settled 19 = .ok (.iinc 1 1, 3) := by decide +kernel
theorem dX8_settled_22 : decode cX8_settled 22 = .ok (.goto (-20), 3) := by decide +kernel
theorem dX8_settled_25 : decode cX8_settled 25 = .ok (.iload_n 1, 1) := by decide +kernel
theorem dX8_settled_26 : decode cX8_settled 26 = .ok (.ireturn, 1) := by decide +kernel
theorem dX8_split_0 : decode cX8_split 0 = .ok (.aload_n 0, 1) := by decide +kernel
theorem dX8_split_1 : decode cX8_split 1 = .ok (.iload_n 1, 1) := by decide +kernel
theorem dX8_split_2 : decode cX8_split 2 = .ok (.invokestatic 145, 3) := by decide +kernel
theorem dX8_split_5 : decode cX8_split 5 = .ok (.iconst 1, 1) := by decide +kernel
theorem dX8_split_6 : decode cX8_split 6 = .ok (.invokevirtual 149, 3) := by decide +kernel
theorem dX8_split_9 : decode cX8_split 9 = .ok (.ifCond .ne 27, 3) := by decide +kernel
theorem dX8_split_12 : decode cX8_split 12 = .ok (.aload_n 0, 1) := by decide +kernel
theorem dX8_split_13 : decode cX8_split 13 = .ok (.iload_n 2, 1) := by decide +kernel
theorem dX8_split_14 : decode cX8_split 14 = .ok (.iconst 5, 1) := by decide +kernel
theorem dX8_split_15 : decode cX8_split 15 = .ok (.sipush 997, 3) := by decide +kernel
theorem dX8_split_18 : decode cX8_split 18 = .ok (.invokestatic 49, 3) := by decide +kernel
theorem dX8_split_21 : decode cX8_split 21 = .ok (.ifCond .ne 7, 3) := by decide +kernel
theorem dX8_split_24 : decode cX8_split 24 = .ok (.iconst 1, 1) := by decide +kernel
theorem dX8_split_25 : decode cX8_split 25 = .ok (.goto 4, 3) := by decide +kernel
theorem dX8_split_28 : decode cX8_split 28 = .ok (.iconst 0, 1) := by decide +kernel
theorem dX8_split_29 : decode cX8_split 29 = .ok (.iconst 2, 1) := by decide +kernel
theorem dX8_split_30 : decode cX8_split 30 = .ok (.invokevirtual 45, 3) := by decide +kernel
theorem dX8_split_33 : decode cX8_split 33 = .ok (.ifCond .eq 5, 3) := by decide +kernel
theorem dX8_split_36 : decode cX8_split 36 = .ok (.iconst 0, 1) := by decide +kernel
theorem dX8_split_37 : decode cX8_split 37 = .ok (.ireturn, 1) := by decide +kernel
theorem dX8_split_38 : decode cX8_split 38 = .ok (.iload_n 2, 1) := by decide +kernel
theorem dX8_split_39 : decode cX8_split 39 = .ok (.iconst 4, 1) := by decide +kernel
theorem dX8_split_40 : decode cX8_split 40 = .ok (.irem, 1) := by decide +kernel
theorem dX8_split_41 : decode cX8_split 41 = .ok (.iconst 1, 1) := by decide +kernel
theorem dX8_split_42 : decode cX8_split 42 = .ok (.if_icmp .ne 10, 3) := by decide +kernel
theorem dX8_split_45 : decode cX8_split 45 = .ok (.iload_n 2, 1) := by decide +kernel
theorem dX8_split_46 : decode cX8_split 46 = .ok (.invokestatic 264, 3) := by decide +kernel
theorem dX8_split_49 : decode cX8_split 49 = .ok (.ifCond .ne 8, 3) := by decide +kernel
theorem dX8_split_52 : decode cX8_split 52 = .ok (.aload_n 0, 1) := by decide +kernel
theorem dX8_split_53 : decode cX8_split 53 = .ok (.invokevirtual 158, 3) := by decide +kernel
theorem dX8_split_56 : decode cX8_split 56 = .ok (.ireturn, 1) := by decide +kernel
theorem dX8_split_57 : decode cX8_split 57 = .ok (.aload_n 0, 1) := by decide +kernel
theorem dX8_split_58 : decode cX8_split 58 = .ok (.getfield 35, 3) := by decide +kernel
theorem dX8_split_61 : decode cX8_split 61 = .ok (.iload_n 1, 1) := by decide +kernel
theorem dX8_split_62 : decode cX8_split 62 = .ok (.iload_n 2, 1) := by decide +kernel
theorem dX8_split_63 : decode cX8_split 63 = .ok (.invokestatic 31, 3) := by decide +kernel
theorem dX8_split_66 : decode cX8_split 66 = .ok (.aastore, 1) := by decide +kernel
theorem dX8_split_67 : decode cX8_split 67 = .ok (.aload_n 0, 1) := by decide +kernel
theorem dX8_split_68 : decode cX8_split 68 = .ok (.iconst 2, 1) := by decide +kernel
theorem dX8_split_69 : decode cX8_split 69 = .ok (.iload_n 2, 1) := by decide +kernel
theorem dX8_split_70 : decode cX8_split 70 = .ok (.invokestatic 254, 3) := by decide +kernel
theorem dX8_split_73 : decode cX8_split 73 = .ok (.invokevirtual 155, 3) := by decide +kernel
theorem dX8_split_76 : decode cX8_split 76 = .ok (.ireturn, 1) := by decide +kernel
theorem dX8_euclid_0 : decode cX8_euclid 0 = .ok (.aload_n 0, 1) := by decide +kernel
theorem dX8_euclid_1 : decode cX8_euclid 1 = .ok (.iload_n 1, 1) := by decide +kernel
theorem dX8_euclid_2 : decode cX8_euclid 2 = .ok (.invokestatic 145, 3) := by decide +kernel
theorem dX8_euclid_5 : decode cX8_euclid 5 = .ok (.iconst 1, 1) := by decide +kernel
theorem dX8_euclid_6 : decode cX8_euclid 6 = .ok (.invokevirtual 149, 3) := by decide +kernel
theorem dX8_euclid_9 : decode cX8_euclid 9 = .ok (.ifCond .eq 5, 3) := by decide +kernel
theorem dX8_euclid_12 : decode cX8_euclid 12 = .ok (.iconst 0, 1) := by decide +kernel
theorem dX8_euclid_13 : decode cX8_euclid 13 = .ok (.ireturn, 1) := by decide +kernel
theorem dX8_euclid_14 : decode cX8_euclid 14 = .ok (.aload_n 0, 1) := by decide +kernel
theorem dX8_euclid_15 : decode cX8_euclid 15 = .ok (.getfield 35, 3) := by decide +kernel
theorem dX8_euclid_18 : decode cX8_euclid 18 = .ok (.iload_n 1, 1) := by decide +kernel
theorem dX8_euclid_19 : decode cX8_euclid 19 = .ok (.aaload, 1) := by decide +kernel
theorem dX8_euclid_20 : decode cX8_euclid 20 = .ok (.iconst 2, 1) := by decide +kernel
theorem dX8_euclid_21 : decode cX8_euclid 21 = .ok (.iaload, 1) := by decide +kernel
theorem dX8_euclid_22 : decode cX8_euclid 22 = .ok (.ifCond .ne 8, 3) := by decide +kernel
theorem dX8_euclid_25 : decode cX8_euclid 25 = .ok (.aload_n 0, 1) := by decide +kernel
theorem dX8_euclid_26 : decode cX8_euclid 26 = .ok (.invokevirtual 158, 3) := by decide +kernel
theorem dX8_euclid_29 : decode cX8_euclid 29 = .ok (.ireturn, 1) := by decide +kernel
theorem dX8_euclid_30 : decode cX8_euclid 30 = .ok (.aload_n 0, 1) := by decide +kernel
theorem dX8_euclid_31 : decode cX8_euclid 31 = .ok (.getfield 35, 3) := by decide +kernel
theorem dX8_euclid_34 : decode cX8_euclid 34 = .ok (.iload_n 1, 1) := by decide +kernel
theorem dX8_euclid_35 : decode cX8_euclid 35 = .ok (.aaload, 1) := by decide +kernel
theorem dX8_euclid_36 : decode cX8_euclid 36 = .ok (.invokestatic 260, 3) := by decide +kernel
theorem dX8_euclid_39 : decode cX8_euclid 39 = .ok (.aload_n 0, 1) := by decide +kernel
theorem dX8_euclid_40 : decode cX8_euclid 40 = .ok (.iconst 2, 1) := by decide +kernel
theorem dX8_euclid_41 : decode cX8_euclid 41 = .ok (.aload_n 0, 1) := by decide +kernel
theorem dX8_euclid_42 : decode cX8_euclid 42 = .ok (.getfield 35, 3) := by decide +kernel
theorem dX8_euclid_45 : decode cX8_euclid 45 = .ok (.iload_n 1, 1) := by decide +kernel
theorem dX8_euclid_46 : decode cX8_euclid 46 = .ok (.aaload, 1) := by decide +kernel
theorem dX8_euclid_47 : decode cX8_euclid 47 = .ok (.iconst 2, 1) := by decide +kernel
theorem dX8_euclid_48 : decode cX8_euclid 48 = .ok (.iaload, 1) := by decide +kernel
theorem dX8_euclid_49 : decode cX8_euclid 49 = .ok (.invokevirtual 155, 3) := by decide +kernel
theorem dX8_euclid_52 : decode cX8_euclid 52 = .ok (.ireturn, 1) := by decide +kernel
theorem dX8_settle_0 : decode cX8_settle 0 = .ok (.aload_n 0, 1) := by decide +kernel
theorem dX8_settle_1 : decode cX8_settle 1 = .ok (.iload_n 1, 1) := by decide +kernel
theorem dX8_settle_2 : decode cX8_settle 2 = .ok (.invokestatic 145, 3) := by decide +kernel
theorem dX8_settle_5 : decode cX8_settle 5 = .ok (.iconst 1, 1) := by decide +kernel
theorem dX8_settle_6 : decode cX8_settle 6 = .ok (.invokevirtual 149, 3) := by decide +kernel
theorem dX8_settle_9 : decode cX8_settle 9 = .ok (.ifCond .eq 7, 3) := by decide +kernel
theorem dX8_settle_12 : decode cX8_settle 12 = .ok (.iconst 0, 1) := by decide +kernel
theorem dX8_settle_13 : decode cX8_settle 13 = .ok (.goto 17, 3) := by decide +kernel
theorem dX8_settle_16 : decode cX8_settle 16 = .ok (.aload_n 0, 1) := by decide +kernel
theorem dX8_settle_17 : decode cX8_settle 17 = .ok (.iconst 2, 1) := by decide +kernel
theorem dX8_settle_18 : decode cX8_settle 18 = .ok (.aload_n 0, 1) := by decide +kernel
theorem dX8_settle_19 : decode cX8_settle 19 = .ok (.getfield 35, 3) := by decide +kernel
theorem dX8_settle_22 : decode cX8_settle 22 = .ok (.iload_n 1, 1) := by decide +kernel
theorem dX8_settle_23 : decode cX8_settle 23 = .ok (.aaload, 1) := by decide +kernel
theorem dX8_settle_24 : decode cX8_settle 24 = .ok (.invokestatic 267, 3) := by decide +kernel
theorem dX8_settle_27 : decode cX8_settle 27 = .ok (.invokevirtual 155, 3) := by decide +kernel
theorem dX8_settle_30 : decode cX8_settle 30 = .ok (.ireturn, 1) := by decide +kernel
theorem dX8_splitOf_0 : decode cX8_splitOf 0 = .ok (.aload_n 0, 1) := by decide +kernel
theorem dX8_splitOf_1 : decode cX8_splitOf 1 = .ok (.getfield 35, 3) := by decide +kernel
theorem dX8_splitOf_4 : decode cX8_splitOf 4 = .ok (.iload_n 1, 1) := by decide +kernel
theorem dX8_splitOf_5 : decode cX8_splitOf 5 = .ok (.aaload, 1) := by decide +kernel
theorem dX8_splitOf_6 : decode cX8_splitOf 6 = .ok (.astore_n 3, 1) := by decide +kernel
theorem dX8_splitOf_7 : decode cX8_splitOf 7 = .ok (.iload_n 2, 1) := by decide +kernel
theorem dX8_splitOf_8 : decode cX8_splitOf 8 = .ok (.ifCond .ne 9, 3) := by decide +kernel
theorem dX8_splitOf_11 : decode cX8_splitOf 11 = .ok (.aload_n 3, 1) := by decide +kernel
theorem dX8_splitOf_12 : decode cX8_splitOf 12 = .ok (.iconst 0, 1) := by decide +kernel
theorem dX8_splitOf_13 : decode cX8_splitOf 13 = .ok (.iaload, 1) := by decide +kernel
theorem dX8_splitOf_14 : decode cX8_splitOf 14 = .ok (.goto 36, 3) := by decide +kernel
theorem dX8_splitOf_17 : decode cX8_splitOf 17 = .ok (.iload_n 2, 1) := by decide +kernel
theorem dX8_splitOf_18 : decode cX8_splitOf 18 = .ok (.iconst 1, 1) := by decide +kernel
theorem dX8_splitOf_19 : decode cX8_splitOf 19 = .ok (.if_icmp .ne 12, 3) := by decide +kernel
theorem dX8_splitOf_22 : decode cX8_splitOf 22 = .ok (.aload_n 3, 1) := by decide +kernel
theorem dX8_splitOf_23 : decode cX8_splitOf 23 = .ok (.iconst 0, 1) := by decide +kernel
theorem dX8_splitOf_24 : decode cX8_splitOf 24 = .ok (.iaload, 1) := by decide +kernel
theorem dX8_splitOf_25 : decode cX8_splitOf 25 = .ok (.invokestatic 254, 3) := by decide +kernel
theorem dX8_splitOf_28 : decode cX8_splitOf 28 = .ok (.goto 22, 3) := by decide +kernel
theorem dX8_splitOf_31 : decode cX8_splitOf 31 = .ok (.iload_n 2, 1) := by decide +kernel
theorem dX8_splitOf_32 : decode cX8_splitOf 32 = .ok (.iconst 2, 1) := by decide +kernel
theorem dX8_splitOf_33 : decode cX8_splitOf 33 = .ok (.if_icmp .ne 12, 3) := by decide +kernel
theorem dX8_splitOf_36 : decode cX8_splitOf 36 = .ok (.aload_n 3, 1) := by decide +kernel
theorem dX8_splitOf_37 : decode cX8_splitOf 37 = .ok (.iconst 0, 1) := by decide +kernel
theorem dX8_splitOf_38 : decode cX8_splitOf 38 = .ok (.iaload, 1) := by decide +kernel
theorem dX8_splitOf_39 : decode cX8_splitOf 39 = .ok (.invokestatic 257, 3) := by decide +kernel
theorem dX8_splitOf_42 : decode cX8_splitOf 42 = .ok (.goto 8, 3) := by decide +kernel
theorem dX8_splitOf_45 : decode cX8_splitOf 45 = .ok (.aload_n 3, 1) := by decide +kernel
theorem dX8_splitOf_46 : decode cX8_splitOf 46 = .ok (.iload_n 2, 1) := by decide +kernel
theorem dX8_splitOf_47 : decode cX8_splitOf 47 = .ok (.iconst 2, 1) := by decide +kernel
theorem dX8_splitOf_48 : decode cX8_splitOf 48 = .ok (.isub, 1) := by decide +kernel
theorem dX8_splitOf_49 : decode cX8_splitOf 49 = .ok (.iaload, 1) := by decide +kernel
theorem dX8_splitOf_50 : decode cX8_splitOf 50 = .ok (.ireturn, 1) := by decide +kernel
theorem dX8_splitNumber_0 : decode cX8_splitNumber 0 = .ok (.aload_n 0, 1) := by decide +kernel
theorem dX8_splitNumber_1 : decode cX8_splitNumber 1 = .ok (.iload_n 1, 1) := by decide +kernel
theorem dX8_splitNumber_2 : decode cX8_splitNumber 2 = .ok (.invokestatic 145, 3) := by decide +kernel
theorem dX8_splitNumber_5 : decode cX8_splitNumber 5 = .ok (.iconst 1, 1) := by decide +kernel
theorem dX8_splitNumber_6 : decode cX8_splitNumber 6 = .ok (.invokevirtual 149, 3) := by decide +kernel
theorem dX8_splitNumber_9 : decode cX8_splitNumber 9 = .ok (.ifCond .ne 26, 3) := by decide +kernel
theorem dX8_splitNumber_12 : decode cX8_splitNumber 12 = .ok (.aload_n 0, 1) := by decide +kernel
theorem dX8_splitNumber_13 : decode cX8_splitNumber 13 = .ok (.iload_n 2, 1) := by decide +kernel
theorem dX8_splitNumber_14 : decode cX8_splitNumber 14 = .ok (.iconst 0, 1) := by decide +kernel
theorem dX8_splitNumber_15 : decode cX8_splitNumber 15 = .ok (.bipush 7, 2) := by decide +kernel
theorem dX8_splitNumber_17 : decode cX8_splitNumber 17 = .ok (.invokestatic 49, 3) := by decide +kernel
theorem dX8_splitNumber_20 : decode cX8_splitNumber 20 = .ok (.ifCond .ne 7, 3) := by decide +kernel
theorem dX8_splitNumber_23 : decode cX8_splitNumber 23 = .ok (.iconst 1, 1) := by decide +kernel
theorem dX8_splitNumber_24 : decode cX8_splitNumber 24 = .ok (.goto 4, 3) := by decide +kernel
theorem dX8_splitNumber_27 : decode cX8_splitNumber 27 = .ok (.iconst 0, 1) := by decide +kernel
theorem dX8_splitNumber_28 : decode cX8_splitNumber 28 = .ok (.iconst 2, 1) := by decide +kernel
theorem dX8_splitNumber_29 : decode cX8_splitNumber 29 = .ok (.invokevirtual 45, 3) := by decide +kernel
theorem dX8_splitNumber_32 : decode cX8_splitNumber 32 = .ok (.ifCond .eq 7, 3) := by decide +kernel
theorem dX8_splitNumber_35 : decode cX8_splitNumber 35 = .ok (.iconst 0, 1) := by decide +kernel
theorem dX8_splitNumber_36 : decode cX8_splitNumber 36 = .ok (.goto 9, 3) := by decide +kernel
theorem dX8_splitNumber_39 : decode cX8_splitNumber 39 = .ok (.aload_n 0, 1) := by decide +kernel
theorem dX8_splitNumber_40 : decode cX8_splitNumber 40 = .ok (.iload_n 1, 1) := by decide +kernel
theorem dX8_splitNumber_41 : decode cX8_splitNumber 41 = .ok (.iload_n 2, 1) := by decide +kernel
theorem dX8_splitNumber_42 : decode cX8_splitNumber 42 = .ok (.invokevirtual 271, 3) := by decide +kernel
theorem dX8_splitNumber_45 : decode cX8_splitNumber 45 = .ok (.ireturn, 1) := by decide +kernel
theorem dX8_wayOf_0 : decode cX8_wayOf 0 = .ok (.iload_n 0, 1) := by decide +kernel
theorem dX8_wayOf_1 : decode cX8_wayOf 1 = .ok (.invokestatic 31, 3) := by decide +kernel
theorem dX8_wayOf_4 : decode cX8_wayOf 4 = .ok (.astore_n 1, 1) := by decide +kernel
theorem dX8_wayOf_5 : decode cX8_wayOf 5 = .ok (.aload_n 1, 1) := by decide +kernel
theorem dX8_wayOf_6 : decode cX8_wayOf 6 = .ok (.invokestatic 267, 3) := by decide +kernel
theorem dX8_wayOf_9 : decode cX8_wayOf 9 = .ok (.pop, 1) := by decide +kernel
theorem dX8_wayOf_10 : decode cX8_wayOf 10 = .ok (.iconst 2, 1) := by decide +kernel
theorem dX8_wayOf_11 : decode cX8_wayOf 11 = .ok (.newarray .int, 2) := by decide +kernel
theorem dX8_wayOf_13 : decode cX8_wayOf 13 = .ok (.dup, 1) := by decide +kernel
theorem dX8_wayOf_14 : decode cX8_wayOf 14 = .ok (.iconst 0, 1) := by decide +kernel
theorem dX8_wayOf_15 : decode cX8_wayOf 15 = .ok (.aload_n 1, 1) := by decide +kernel
theorem dX8_wayOf_16 : decode cX8_wayOf 16 = .ok (.iconst 1, 1) := by decide +kernel
theorem dX8_wayOf_17 : decode cX8_wayOf 17 = .ok (.iaload, 1) := by decide +kernel
theorem dX8_wayOf_18 : decode cX8_wayOf 18 = .ok (.iastore, 1) := by decide +kernel
theorem dX8_wayOf_19 : decode cX8_wayOf 19 = .ok (.dup, 1) := by decide +kernel
theorem dX8_wayOf_20 : decode cX8_wayOf 20 = .ok (.iconst 1, 1) := by decide +kernel
theorem dX8_wayOf_21 : decode cX8_wayOf 21 = .ok (.aload_n 1, 1) := by decide +kernel
theorem dX8_wayOf_22 : decode cX8_wayOf 22 = .ok (.iconst 2, 1) := by decide +kernel
theorem dX8_wayOf_23 : decode cX8_wayOf 23 = .ok (.iaload, 1) := by decide +kernel
theorem dX8_wayOf_24 : decode cX8_wayOf 24 = .ok (.iastore, 1) := by decide +kernel
theorem dX8_wayOf_25 : decode cX8_wayOf 25 = .ok (.areturn, 1) := by decide +kernel
theorem dX8_way_0 : decode cX8_way 0 = .ok (.aload_n 0, 1) := by decide +kernel
theorem dX8_way_1 : decode cX8_way 1 = .ok (.iload_n 1, 1) := by decide +kernel
theorem dX8_way_2 : decode cX8_way 2 = .ok (.invokestatic 145, 3) := by decide +kernel
theorem dX8_way_5 : decode cX8_way 5 = .ok (.iconst 1, 1) := by decide +kernel
theorem dX8_way_6 : decode cX8_way 6 = .ok (.invokevirtual 149, 3) := by decide +kernel
theorem dX8_way_9 : decode cX8_way 9 = .ok (.ifCond .eq 6, 3) := by decide +kernel
theorem dX8_way_12 : decode cX8_way 12 = .ok (.ldc 165, 2) := by decide +kernel
theorem dX8_way_14 : decode cX8_way 14 = .ok (.areturn, 1) := by decide +kernel
theorem dX8_way_15 : decode cX8_way 15 = .ok (.aload_n 0, 1) := by decide +kernel
theorem dX8_way_16 : decode cX8_way 16 = .ok (.getfield 35, 3) := by decide +kernel
theorem dX8_way_19 : decode cX8_way 19 = .ok (.iload_n 1, 1) := by decide +kernel
theorem dX8_way_20 : decode cX8_way 20 = .ok (.aaload, 1) := by decide +kernel
theorem dX8_way_21 : decode cX8_way 21 = .ok (.iconst 0, 1) := by decide +kernel
theorem dX8_way_22 : decode cX8_way 22 = .ok (.iaload, 1) := by decide +kernel
theorem dX8_way_23 : decode cX8_way 23 = .ok (.invokestatic 274, 3) := by decide +kernel
theorem dX8_way_26 : decode cX8_way 26 = .ok (.astore_n 2, 1) := by decide +kernel
theorem dX8_way_27 : decode cX8_way 27 = .ok (.new 86, 3) := by decide +kernel
theorem dX8_way_30 : decode cX8_way 30 = .ok (.dup, 1) := by decide +kernel
theorem dX8_way_31 : decode cX8_way 31 = .ok (.invokespecial 88, 3) := by decide +kernel
theorem dX8_way_34 : decode cX8_way 34 = .ok (.aload_n 2, 1) := by decide +kernel
theorem dX8_way_35 : decode cX8_way 35 = .ok (.iconst 0, 1) := by decide +kernel
theorem dX8_way_36 : decode cX8_way 36 = .ok (.iaload, 1) := by decide +kernel
theorem dX8_way_37 : decode cX8_way 37 = .ok (.invokevirtual 204, 3) := by decide +kernel
theorem dX8_way_40 : decode cX8_way 40 = .ok (.ldc 220, 2) := by decide +kernel
theorem dX8_way_42 : decode cX8_way 42 = .ok (.invokevirtual 222, 3) := by decide +kernel
theorem dX8_way_45 : decode cX8_way 45 = .ok (.aload_n 2, 1) := by decide +kernel
theorem dX8_way_46 : decode cX8_way 46 = .ok (.iconst 1, 1) := by decide +kernel
theorem dX8_way_47 : decode cX8_way 47 = .ok (.iaload, 1) := by decide +kernel
theorem dX8_way_48 : decode cX8_way 48 = .ok (.invokevirtual 204, 3) := by decide +kernel
theorem dX8_way_51 : decode cX8_way 51 = .ok (.invokevirtual 113, 3) := by decide +kernel
theorem dX8_way_54 : decode cX8_way 54 = .ok (.areturn, 1) := by decide +kernel
theorem dX8_product__0 : decode cX8_product_ 0 = .ok (.aload_n 0, 1) := by decide +kernel
theorem dX8_product__1 : decode cX8_product_ 1 = .ok (.iload_n 1, 1) := by decide +kernel
theorem dX8_product__2 : decode cX8_product_ 2 = .ok (.invokestatic 145, 3) := by decide +kernel
theorem dX8_product__5 : decode cX8_product_ 5 = .ok (.ifCond .ne 10, 3) := by decide +kernel
theorem dX8_product__8 : decode cX8_product_ 8 = .ok (.iload_n 2, 1) := by decide +kernel
theorem dX8_product__9 : decode cX8_product_ 9 = .ok (.invokestatic 145, 3) := by decide +kernel
theorem dX8_product__12 : decode cX8_product_ 12 = .ok (.ifCond .eq 7, 3) := by decide +kernel
theorem dX8_product__15 : decode cX8_product_ 15 = .ok (.iconst 1, 1) := by decide +kernel
theorem dX8_product__16 : decode cX8_product_ 16 = .ok (.goto 4, 3) := by decide +kernel
theorem dX8_product__19 : decode cX8_product_ 19 = .ok (.iconst 0, 1) := by decide +kernel
theorem dX8_product__20 : decode cX8_product_ 20 = .ok (.iconst 1, 1) := by decide +kernel
theorem dX8_product__21 : decode cX8_product_ 21 = .ok (.invokevirtual 149, 3) := by decide +kernel
theorem dX8_product__24 : decode cX8_product_ 24 = .ok (.ifCond .eq 6, 3) := by decide +kernel
theorem dX8_product__27 : decode cX8_product_ 27 = .ok (.ldc 165, 2) := by decide +kernel
theorem dX8_product__29 : decode cX8_product_ 29 = .ok (.areturn, 1) := by decide +kernel
theorem dX8_product__30 : decode cX8_product_ 30 = .ok (.aload_n 0, 1) := by decide +kernel
theorem dX8_product__31 : decode cX8_product_ 31 = .ok (.getfield 35, 3) := by decide +kernel
theorem dX8_product__34 : decode cX8_product_ 34 = .ok (.iload_n 1, 1) := by decide +kernel
theorem dX8_product__35 : decode cX8_product_ 35 = .ok (.aaload, 1) := by decide +kernel
theorem dX8_product__36 : decode cX8_product_ 36 = .ok (.iconst 0, 1) := by decide +kernel
theorem dX8_product__37 : decode cX8_product_ 37 = .ok (.iaload, 1) := by decide +kernel
theorem dX8_product__38 : decode cX8_product_ 38 = .ok (.invokestatic 274, 3) := by decide +kernel
theorem dX8_product__41 : decode cX8_product_ 41 = .ok (.astore_n 3, 1) := by decide +kernel
theorem dX8_product__42 : decode cX8_product_ 42 = .ok (.aload_n 0, 1) := by decide +kernel
theorem dX8_product__43 : decode cX8_product_ 43 = .ok (.getfield 35, 3) := by decide +kernel
theorem dX8_product__46 : decode cX8_product_ 46 = .ok (.iload_n 2, 1) := by decide +kernel
theorem dX8_product__47 : decode cX8_product_ 47 = .ok (.aaload, 1) := by decide +kernel
theorem dX8_product__48 : decode cX8_product_ 48 = .ok (.iconst 0, 1) := by decide +kernel
theorem dX8_product__49 : decode cX8_product_ 49 = .ok (.iaload, 1) := by decide +kernel
theorem dX8_product__50 : decode cX8_product_ 50 = .ok (.invokestatic 274, 3) := by decide +kernel
theorem dX8_product__53 : decode cX8_product_ 53 = .ok (.astore 4, 2) := by decide +kernel
theorem dX8_product__55 : decode cX8_product_ 55 = .ok (.new 86, 3) := by decide +kernel
theorem dX8_product__58 : decode cX8_product_ 58 = .ok (.dup, 1) := by decide +kernel
theorem dX8_product__59 : decode cX8_product_ 59 = .ok (.invokespecial 88, 3) := by decide +kernel
theorem dX8_product__62 : decode cX8_product_ 62 = .ok (.aload_n 3, 1) := by decide +kernel
theorem dX8_product__63 : decode cX8_product_ 63 = .ok (.iconst 0, 1) := by decide +kernel
theorem dX8_product__64 : decode cX8_product_ 64 = .ok (.iaload, 1) := by decide +kernel
theorem dX8_product__65 : decode cX8_product_ 65 = .ok (.aload 4, 2) := by decide +kernel
theorem dX8_product__67 : decode cX8_product_ 67 = .ok (.iconst 0, 1) := by decide +kernel
theorem dX8_product__68 : decode cX8_product_ 68 = .ok (.iaload, 1) := by decide +kernel
theorem dX8_product__69 : decode cX8_product_ 69 = .ok (.imul, 1) := by decide +kernel
theorem dX8_product__70 : decode cX8_product_ 70 = .ok (.aload_n 3, 1) := by decide +kernel
theorem dX8_product__71 : decode cX8_product_ 71 = .ok (.iconst 1, 1) := by decide +kernel
theorem dX8_product__72 : decode cX8_product_ 72 = .ok (.iaload, 1) := by decide +kernel
theorem dX8_product__73 : decode cX8_product_ 73 = .ok (.aload 4, 2) := by decide +kernel
theorem dX8_product__75 : decode cX8_product_ 75 = .ok (.iconst 1, 1) := by decide +kernel
theorem dX8_product__76 : decode cX8_product_ 76 = .ok (.iaload, 1) := by decide +kernel
theorem dX8_product__77 : decode cX8_product_ 77 = .ok (.imul, 1) := by decide +kernel
theorem dX8_product__78 : decode cX8_product_ 78 = .ok (.iadd, 1) := by decide +kernel
theorem dX8_product__79 : decode cX8_product_ 79 = .ok (.invokevirtual 204, 3) := by decide +kernel
theorem dX8_product__82 : decode cX8_product_ 82 = .ok (.ldc 220, 2) := by decide +kernel
theorem dX8_product__84 : decode cX8_product_ 84 = .ok (.invokevirtual 222, 3) := by decide +kernel
theorem dX8_product__87 : decode cX8_product_ 87 = .ok (.aload_n 3, 1) := by decide +kernel
theorem dX8_product__88 : decode cX8_product_ 88 = .ok (.iconst 0, 1) := by decide +kernel
theorem dX8_product__89 : decode cX8_product_ 89 = .ok (.iaload, 1) := by decide +kernel
theorem dX8_product__90 : decode cX8_product_ 90 = .ok (.aload 4, 2) := by decide +kernel
theorem dX8_product__92 : decode cX8_product_ 92 = .ok (.iconst 1, 1) := by decide +kernel
theorem dX8_product__93 : decode cX8_product_ 93 = .ok (.iaload, 1) := by decide +kernel
theorem dX8_product__94 : decode cX8_product_ 94 = .ok (.imul, 1) := by decide +kernel
theorem dX8_product__95 : decode cX8_product_ 95 = .ok (.aload_n 3, 1) := by decide +kernel
theorem dX8_product__96 : decode cX8_product_ 96 = .ok (.iconst 1, 1) := by decide +kernel
theorem dX8_product__97 : decode cX8_product_ 97 = .ok (.iaload, 1) := by decide +kernel
theorem dX8_product__98 : decode cX8_product_ 98 = .ok (.aload 4, 2) := by decide +kernel
theorem dX8_product__100 : decode cX8_product_ 100 = .ok (.iconst 0, 1) := by decide +kernel
theorem dX8_product__101 : decode cX8_product_ 101 = .ok (.iaload, 1) := by decide +kernel
theorem dX8_product__102 : decode cX8_product_ 102 = .ok (.imul, 1) := by decide +kernel
theorem dX8_product__103 : decode cX8_product_ 103 = .ok (.isub, 1) := by decide +kernel
theorem dX8_product__104 : decode cX8_product_ 104 = .ok (.invokestatic 196, 3) := by decide +kernel
theorem dX8_product__107 : decode cX8_product_ 107 = .ok (.invokevirtual 204, 3) := by decide +kernel
theorem dX8_product__110 : decode cX8_product_ 110 = .ok (.ldc 220, 2) := by decide +kernel
theorem dX8_product__112 : decode cX8_product_ 112 = .ok (.invokevirtual 222, 3) := by decide +kernel
theorem dX8_product__115 : decode cX8_product_ 115 = .ok (.aload_n 3, 1) := by decide +kernel
theorem dX8_product__116 : decode cX8_product_ 116 = .ok (.iconst 0, 1) := by decide +kernel
theorem dX8_product__117 : decode cX8_product_ 117 = .ok (.iaload, 1) := by decide +kernel
theorem dX8_product__118 : decode cX8_product_ 118 = .ok (.aload 4, 2) := by decide +kernel
theorem dX8_product__120 : decode cX8_product_ 120 = .ok (.iconst 0, 1) := by decide +kernel
theorem dX8_product__121 : decode cX8_product_ 121 = .ok (.iaload, 1) := by decide +kernel
theorem dX8_product__122 : decode cX8_product_ 122 = .ok (.imul, 1) := by decide +kernel
theorem dX8_product__123 : decode cX8_product_ 123 = .ok (.aload_n 3, 1) := by decide +kernel
theorem dX8_product__124 : decode cX8_product_ 124 = .ok (.iconst 1, 1) := by decide +kernel
theorem dX8_product__125 : decode cX8_product_ 125 = .ok (.iaload, 1) := by decide +kernel
theorem dX8_product__126 : decode cX8_product_ 126 = .ok (.aload 4, 2) := by decide +kernel
theorem dX8_product__128 : decode cX8_product_ 128 = .ok (.iconst 1, 1) := by decide +kernel
theorem dX8_product__129 : decode cX8_product_ 129 = .ok (.iaload, 1) := by decide +kernel
theorem dX8_product__130 : decode cX8_product_ 130 = .ok (.imul, 1) := by decide +kernel
theorem dX8_product__131 : decode cX8_product_ 131 = .ok (.isub, 1) := by decide +kernel
theorem dX8_product__132 : decode cX8_product_ 132 = .ok (.invokestatic 196, 3) := by decide +kernel
theorem dX8_product__135 : decode cX8_product_ 135 = .ok (.invokevirtual 204, 3) := by decide +kernel
theorem dX8_product__138 : decode cX8_product_ 138 = .ok (.ldc 220, 2) := by decide +kernel
theorem dX8_product__140 : decode cX8_product_ 140 = .ok (.invokevirtual 222, 3) := by decide +kernel
theorem dX8_product__143 : decode cX8_product_ 143 = .ok (.aload_n 3, 1) := by decide +kernel
theorem dX8_product__144 : decode cX8_product_ 144 = .ok (.iconst 0, 1) := by decide +kernel
theorem dX8_product__145 : decode cX8_product_ 145 = .ok (.iaload, 1) := by decide +kernel
theorem dX8_product__146 : decode cX8_product_ 146 = .ok (.aload 4, 2) := by decide +kernel
theorem dX8_product__148 : decode cX8_product_ 148 = .ok (.iconst 1, 1) := by decide +kernel
theorem dX8_product__149 : decode cX8_product_ 149 = .ok (.iaload, 1) := by decide +kernel
theorem dX8_product__150 : decode cX8_product_ 150 = .ok (.imul, 1) := by decide +kernel
theorem dX8_product__151 : decode cX8_product_ 151 = .ok (.aload_n 3, 1) := by decide +kernel
theorem dX8_product__152 : decode cX8_product_ 152 = .ok (.iconst 1, 1) := by decide +kernel
theorem dX8_product__153 : decode cX8_product_ 153 = .ok (.iaload, 1) := by decide +kernel
theorem dX8_product__154 : decode cX8_product_ 154 = .ok (.aload 4, 2) := by decide +kernel
theorem dX8_product__156 : decode cX8_product_ 156 = .ok (.iconst 0, 1) := by decide +kernel
theorem dX8_product__157 : decode cX8_product_ 157 = .ok (.iaload, 1) := by decide +kernel
theorem dX8_product__158 : decode cX8_product_ 158 = .ok (.imul, 1) := by decide +kernel
theorem dX8_product__159 : decode cX8_product_ 159 = .ok (.iadd, 1) := by decide +kernel
theorem dX8_product__160 : decode cX8_product_ 160 = .ok (.invokevirtual 204, 3) := by decide +kernel
theorem dX8_product__163 : decode cX8_product_ 163 = .ok (.invokevirtual 113, 3) := by decide +kernel
theorem dX8_product__166 : decode cX8_product_ 166 = .ok (.areturn, 1) := by decide +kernel
theorem dX8_symbol_0 : decode cX8_symbol 0 = .ok (.aload_n 0, 1) := by decide +kernel
theorem dX8_symbol_1 : decode cX8_symbol 1 = .ok (.iload_n 1, 1) := by decide +kernel
theorem dX8_symbol_2 : decode cX8_symbol 2 = .ok (.invokestatic 145, 3) := by decide +kernel
theorem dX8_symbol_5 : decode cX8_symbol 5 = .ok (.iconst 1, 1) := by decide +kernel
theorem dX8_symbol_6 : decode cX8_symbol 6 = .ok (.invokevirtual 149, 3) := by decide +kernel
theorem dX8_symbol_9 : decode cX8_symbol 9 = .ok (.ifCond .ne 29, 3) := by decide +kernel
theorem dX8_symbol_12 : decode cX8_symbol 12 = .ok (.aload_n 0, 1) := by decide +kernel
theorem dX8_symbol_13 : decode cX8_symbol 13 = .ok (.iload_n 2, 1) := by decide +kernel
theorem dX8_symbol_14 : decode cX8_symbol 14 = .ok (.sipush (-999), 3) := by decide +kernel
theorem dX8_symbol_17 : decode cX8_symbol 17 = .ok (.sipush 999, 3) := by decide +kernel
theorem dX8_symbol_20 : decode cX8_symbol 20 = .ok (.invokestatic 49, 3) := by decide +kernel
theorem dX8_symbol_23 : decode cX8_symbol 23 = .ok (.ifCond .ne 7, 3) := by decide +kernel
theorem dX8_symbol_26 : decode cX8_symbol 26 = .ok (.iconst 1, 1) := by decide +kernel
theorem dX8_symbol_27 : decode cX8_symbol 27 = .ok (.goto 4, 3) := by decide +kernel
theorem dX8_symbol_30 : decode cX8_symbol 30 = .ok (.iconst 0, 1) := by decide +kernel
theorem dX8_symbol_31 : decode cX8_symbol 31 = .ok (.iconst 2, 1) := by decide +kernel
theorem dX8_symbol_32 : decode cX8_symbol 32 = .ok (.invokevirtual 45, 3) := by decide +kernel
theorem dX8_symbol_35 : decode cX8_symbol 35 = .ok (.ifCond .eq 5, 3) := by decide +kernel
theorem dX8_symbol_38 : decode cX8_symbol 38 = .ok (.iconst 0, 1) := by decide +kernel
theorem dX8_symbol_39 : decode cX8_symbol 39 = .ok (.ireturn, 1) := by decide +kernel
theorem dX8_symbol_40 : decode cX8_symbol 40 = .ok (.aload_n 0, 1) := by decide +kernel
theorem dX8_symbol_41 : decode cX8_symbol 41 = .ok (.getfield 35, 3) := by decide +kernel
theorem dX8_symbol_44 : decode cX8_symbol 44 = .ok (.iload_n 1, 1) := by decide +kernel
theorem dX8_symbol_45 : decode cX8_symbol 45 = .ok (.aaload, 1) := by decide +kernel
theorem dX8_symbol_46 : decode cX8_symbol 46 = .ok (.iconst 0, 1) := by decide +kernel
theorem dX8_symbol_47 : decode cX8_symbol 47 = .ok (.iaload, 1) := by decide +kernel
theorem dX8_symbol_48 : decode cX8_symbol 48 = .ok (.istore_n 3, 1) := by decide +kernel
theorem dX8_symbol_49 : decode cX8_symbol 49 = .ok (.iload_n 2, 1) := by decide +kernel
theorem dX8_symbol_50 : decode cX8_symbol 50 = .ok (.iload_n 3, 1) := by decide +kernel
theorem dX8_symbol_51 : decode cX8_symbol 51 = .ok (.iconst 1, 1) := by decide +kernel
theorem dX8_symbol_52 : decode cX8_symbol 52 = .ok (.isub, 1) := by decide +kernel
theorem dX8_symbol_53 : decode cX8_symbol 53 = .ok (.iconst 2, 1) := by decide +kernel
theorem dX8_symbol_54 : decode cX8_symbol 54 = .ok (.idiv, 1) := by decide +kernel
theorem dX8_symbol_55 : decode cX8_symbol 55 = .ok (.iload_n 3, 1) := by decide +kernel
theorem dX8_symbol_56 : decode cX8_symbol 56 = .ok (.invokestatic 250, 3) := by decide +kernel
theorem dX8_symbol_59 : decode cX8_symbol 59 = .ok (.istore 4, 2) := by decide +kernel
theorem dX8_symbol_61 : decode cX8_symbol 61 = .ok (.iload 4, 2) := by decide +kernel
theorem dX8_symbol_63 : decode cX8_symbol 63 = .ok (.iload_n 3, 1) := by decide +kernel
theorem dX8_symbol_64 : decode cX8_symbol 64 = .ok (.iconst 1, 1) := by decide +kernel
theorem dX8_symbol_65 : decode cX8_symbol 65 = .ok (.isub, 1) := by decide +kernel
theorem dX8_symbol_66 : decode cX8_symbol 66 = .ok (.if_icmp .ne 7, 3) := by decide +kernel
theorem dX8_symbol_69 : decode cX8_symbol 69 = .ok (.iconst (-1), 1) := by decide +kernel
theorem dX8_symbol_70 : decode cX8_symbol 70 = .ok (.goto 5, 3) := by decide +kernel
theorem dX8_symbol_73 : decode cX8_symbol 73 = .ok (.iload 4, 2) := by decide +kernel
theorem dX8_symbol_75 : decode cX8_symbol 75 = .ok (.ireturn, 1) := by decide +kernel
theorem dX8_inverse_0 : decode cX8_inverse 0 = .ok (.aload_n 0, 1) := by decide +kernel
theorem dX8_inverse_1 : decode cX8_inverse 1 = .ok (.iload_n 1, 1) := by decide +kernel
theorem dX8_inverse_2 : decode cX8_inverse 2 = .ok (.invokestatic 145, 3) := by decide +kernel
theorem dX8_inverse_5 : decode cX8_inverse 5 = .ok (.iconst 1, 1) := by decide +kernel
theorem dX8_inverse_6 : decode cX8_inverse 6 = .ok (.invokevirtual 149, 3) := by decide +kernel
theorem dX8_inverse_9 : decode cX8_inverse 9 = .ok (.ifCond .ne 29, 3) := by decide +kernel
theorem dX8_inverse_12 : decode cX8_inverse 12 = .ok (.aload_n 0, 1) := by decide +kernel
theorem dX8_inverse_13 : decode cX8_inverse 13 = .ok (.iload_n 2, 1) := by decide +kernel
theorem dX8_inverse_14 : decode cX8_inverse 14 = .ok (.sipush (-999), 3) := by decide +kernel
theorem dX8_inverse_17 : decode cX8_inverse 17 = .ok (.sipush 999, 3) := by decide +kernel
theorem dX8_inverse_20 : decode cX8_inverse 20 = .ok (.invokestatic 49, 3) := by decide +kernel
theorem dX8_inverse_23 : decode cX8_inverse 23 = .ok (.ifCond .ne 7, 3) := by decide +kernel
theorem dX8_inverse_26 : decode cX8_inverse 26 = .ok (.iconst 1, 1) := by decide +kernel
theorem dX8_inverse_27 : decode cX8_inverse 27 = .ok (.goto 4, 3) := by decide +kernel
theorem dX8_inverse_30 : decode cX8_inverse 30 = .ok (.iconst 0, 1) := by decide +kernel
theorem dX8_inverse_31 : decode cX8_inverse 31 = .ok (.iconst 2, 1) := by decide +kernel
theorem dX8_inverse_32 : decode cX8_inverse 32 = .ok (.invokevirtual 45, 3) := by decide +kernel
theorem dX8_inverse_35 : decode cX8_inverse 35 = .ok (.ifCond .eq 5, 3) := by decide +kernel
theorem dX8_inverse_38 : decode cX8_inverse 38 = .ok (.iconst 0, 1) := by decide +kernel
theorem dX8_inverse_39 : decode cX8_inverse 39 = .ok (.ireturn, 1) := by decide +kernel
theorem dX8_inverse_40 : decode cX8_inverse 40 = .ok (.aload_n 0, 1) := by decide +kernel
theorem dX8_inverse_41 : decode cX8_inverse 41 = .ok (.getfield 35, 3) := by decide +kernel
theorem dX8_inverse_44 : decode cX8_inverse 44 = .ok (.iload_n 1, 1) := by decide +kernel
theorem dX8_inverse_45 : decode cX8_inverse 45 = .ok (.aaload, 1) := by decide +kernel
theorem dX8_inverse_46 : decode cX8_inverse 46 = .ok (.iconst 0, 1) := by decide +kernel
theorem dX8_inverse_47 : decode cX8_inverse 47 = .ok (.iaload, 1) := by decide +kernel
theorem dX8_inverse_48 : decode cX8_inverse 48 = .ok (.istore_n 3, 1) := by decide +kernel
theorem dX8_inverse_49 : decode cX8_inverse 49 = .ok (.iconst 1, 1) := by decide +kernel
theorem dX8_inverse_50 : decode cX8_inverse 50 = .ok (.istore 4, 2) := by decide +kernel
theorem dX8_inverse_52 : decode cX8_inverse 52 = .ok (.iload 4, 2) := by decide +kernel
theorem dX8_inverse_54 : decode cX8_inverse 54 = .ok (.iload_n 3, 1) := by decide +kernel
theorem dX8_inverse_55 : decode cX8_inverse 55 = .ok (.if_icmp .ge 28, 3) := by decide +kernel
theorem dX8_inverse_58 : decode cX8_inverse 58 = .ok (.iload_n 2, 1) := by decide +kernel
theorem dX8_inverse_59 : decode cX8_inverse 59 = .ok (.iload_n 3, 1) := by decide +kernel
theorem dX8_inverse_60 : decode cX8_inverse 60 = .ok (.irem, 1) := by decide +kernel
theorem dX8_inverse_61 : decode cX8_inverse 61 = .ok (.iload_n 3, 1) := by decide +kernel
theorem dX8_inverse_62 : decode cX8_inverse 62 = .ok (.iadd, 1) := by decide +kernel
theorem dX8_inverse_63 : decode cX8_inverse 63 = .ok (.iload_n 3, 1) := by decide +kernel
theorem dX8_inverse_64 : decode cX8_inverse 64 = .ok (.irem, 1) := by decide +kernel
theorem dX8_inverse_65 : decode cX8_inverse 65 = .ok (.iload 4, 2) := by decide +kernel
theorem dX8_inverse_67 : decode cX8_inverse 67 = .ok (.imul, 1) := by decide +kernel
theorem dX8_inverse_68 : decode cX8_inverse 68 = .ok (.iload_n 3, 1) := by decide +kernel
theorem dX8_inverse_69 : decode cX8_inverse 69 = .ok (.irem, 1) := by decide +kernel
theorem dX8_inverse_70 : decode cX8_inverse 70 = .ok (.iconst 1, 1) := by decide +kernel
theorem dX8_inverse_71 : decode cX8_inverse 71 = .ok (.if_icmp .ne 6, 3) := by decide +kernel
theorem dX8_inverse_74 : decode cX8_inverse 74 = .ok (.iload 4, 2) := by decide +kernel
theorem dX8_inverse_76 : decode cX8_inverse 76 = .ok (.ireturn, 1) := by decide +kernel
theorem dX8_inverse_77 : decode cX8_inverse 77 = .ok (.iinc 4 1, 3) := by decide +kernel
theorem dX8_inverse_80 : decode cX8_inverse 80 = .ok (.goto (-28), 3) := by decide +kernel
theorem dX8_inverse_83 : decode cX8_inverse 83 = .ok (.iconst 0, 1) := by decide +kernel
theorem dX8_inverse_84 : decode cX8_inverse 84 = .ok (.ireturn, 1) := by decide +kernel
theorem dX8_isPrime_0 : decode cX8_isPrime 0 = .ok (.aload_n 0, 1) := by decide +kernel
theorem dX8_isPrime_1 : decode cX8_isPrime 1 = .ok (.iload_n 1, 1) := by decide +kernel
theorem dX8_isPrime_2 : decode cX8_isPrime 2 = .ok (.iconst 0, 1) := by decide +kernel
theorem dX8_isPrime_3 : decode cX8_isPrime 3 = .ok (.sipush 999, 3) := by decide +kernel
theorem dX8_isPrime_6 : decode cX8_isPrime 6 = .ok (.invokestatic 49, 3) := by decide +kernel
theorem dX8_isPrime_9 : decode cX8_isPrime 9 = .ok (.ifCond .ne 7, 3) := by decide +kernel
theorem dX8_isPrime_12 : decode cX8_isPrime 12 = .ok (.iconst 1, 1) := by decide +kernel
theorem dX8_isPrime_13 : decode cX8_isPrime 13 = .ok (.goto 4, 3) := by decide +kernel
theorem dX8_isPrime_16 : decode cX8_isPrime 16 = .ok (.iconst 0, 1) := by decide +kernel
theorem dX8_isPrime_17 : decode cX8_isPrime 17 = .ok (.iconst 1, 1) := by decide +kernel
theorem dX8_isPrime_18 : decode cX8_isPrime 18 = .ok (.invokevirtual 149, 3) := by decide +kernel
theorem dX8_isPrime_21 : decode cX8_isPrime 21 = .ok (.ifCond .ne 14, 3) := by decide +kernel
theorem dX8_isPrime_24 : decode cX8_isPrime 24 = .ok (.iload_n 1, 1) := by decide +kernel
theorem dX8_isPrime_25 : decode cX8_isPrime 25 = .ok (.invokestatic 264, 3) := by decide +kernel
theorem dX8_isPrime_28 : decode cX8_isPrime 28 = .ok (.ifCond .eq 7, 3) := by decide +kernel
theorem dX8_isPrime_31 : decode cX8_isPrime 31 = .ok (.iconst 1, 1) := by decide +kernel
theorem dX8_isPrime_32 : decode cX8_isPrime 32 = .ok (.goto 4, 3) := by decide +kernel
theorem dX8_isPrime_35 : decode cX8_isPrime 35 = .ok (.iconst 0, 1) := by decide +kernel
theorem dX8_isPrime_36 : decode cX8_isPrime 36 = .ok (.ireturn, 1) := by decide +kernel
theorem dX8_house_0 : decode cX8_house 0 = .ok (.aload_n 0, 1) := by decide +kernel
theorem dX8_house_1 : decode cX8_house 1 = .ok (.iload_n 1, 1) := by decide +kernel
theorem dX8_house_2 : decode cX8_house 2 = .ok (.iconst 0, 1) := by decide +kernel
theorem dX8_house_3 : decode cX8_house 3 = .ok (.iconst 4, 1) := by decide +kernel
theorem dX8_house_4 : decode cX8_house 4 = .ok (.invokestatic 49, 3) := by decide +kernel
theorem dX8_house_7 : decode cX8_house 7 = .ok (.ifCond .ne 7, 3) := by decide +kernel
theorem dX8_house_10 : decode cX8_house 10 = .ok (.iconst 1, 1) := by decide +kernel
theorem dX8_house_11 : decode cX8_house 11 = .ok (.goto 4, 3) := by decide +kernel
theorem dX8_house_14 : decode cX8_house 14 = .ok (.iconst 0, 1) := by decide +kernel
theorem dX8_house_15 : decode cX8_house 15 = .ok (.iconst 1, 1) := by decide +kernel
theorem dX8_house_16 : decode cX8_house 16 = .ok (.invokevirtual 149, 3) := by decide +kernel
theorem dX8_house_19 : decode cX8_house 19 = .ok (.ifCond .eq 7, 3) := by decide +kernel
theorem dX8_house_22 : decode cX8_house 22 = .ok (.iconst 0, 1) := by decide +kernel
theorem dX8_house_23 : decode cX8_house 23 = .ok (.goto 9, 3) := by decide +kernel
theorem dX8_house_26 : decode cX8_house 26 = .ok (.aload_n 0, 1) := by decide +kernel
theorem dX8_house_27 : decode cX8_house 27 = .ok (.getfield 38, 3) := by decide +kernel
theorem dX8_house_30 : decode cX8_house 30 = .ok (.iload_n 1, 1) := by decide +kernel
theorem dX8_house_31 : decode cX8_house 31 = .ok (.iaload, 1) := by decide +kernel
theorem dX8_house_32 : decode cX8_house 32 = .ok (.ireturn, 1) := by decide +kernel
theorem dX8_knock_0 : decode cX8_knock 0 = .ok (.aload_n 0, 1) := by decide +kernel
theorem dX8_knock_1 : decode cX8_knock 1 = .ok (.iconst 0, 1) := by decide +kernel
theorem dX8_knock_2 : decode cX8_knock 2 = .ok (.putfield 41, 3) := by decide +kernel
theorem dX8_knock_5 : decode cX8_knock 5 = .ok (.aload_n 0, 1) := by decide +kernel
theorem dX8_knock_6 : decode cX8_knock 6 = .ok (.getfield 38, 3) := by decide +kernel
theorem dX8_knock_9 : decode cX8_knock 9 = .ok (.iconst 4, 1) := by decide +kernel
theorem dX8_knock_10 : decode cX8_knock 10 = .ok (.dup2, 1) := by decide +kernel
theorem dX8_knock_11 : decode cX8_knock 11 = .ok (.iaload, 1) := by decide +kernel
theorem dX8_knock_12 : decode cX8_knock 12 = .ok (.iconst 1, 1) := by decide +kernel
theorem dX8_knock_13 : decode cX8_knock 13 = .ok (.iadd, 1) := by decide +kernel
theorem dX8_knock_14 : decode cX8_knock 14 = .ok (.iastore, 1) := by decide +kernel
theorem dX8_knock_15 : decode cX8_knock 15 = .ok (.aload_n 0, 1) := by decide +kernel
theorem dX8_knock_16 : decode cX8_knock 16 = .ok (.getfield 38, 3) := by decide +kernel
theorem dX8_knock_19 : decode cX8_knock 19 = .ok (.iconst 4, 1) := by decide +kernel
theorem dX8_knock_20 : decode cX8_knock 20 = .ok (.iaload, 1) := by decide +kernel
theorem dX8_knock_21 : decode cX8_knock 21 = .ok (.ireturn, 1) := by decide +kernel
theorem dX8_isWalkSound_0 : decode cX8_isWalkSound 0 = .ok (.aload_n 0, 1) := by decide +kernel
theorem dX8_isWalkSound_1 : decode cX8_isWalkSound 1 = .ok (.getfield 9, 3) := by decide +kernel
theorem dX8_isWalkSound_4 : decode cX8_isWalkSound 4 = .ok (.iload_n 1, 1) := by decide +kernel
theorem dX8_isWalkSound_5 : decode cX8_isWalkSound 5 = .ok (.iaload, 1) := by decide +kernel
theorem dX8_isWalkSound_6 : decode cX8_isWalkSound 6 = .ok (.istore_n 2, 1) := by decide +kernel
theorem dX8_isWalkSound_7 : decode cX8_isWalkSound 7 = .ok (.aload_n 0, 1) := by decide +kernel
theorem dX8_isWalkSound_8 : decode cX8_isWalkSound 8 = .ok (.getfield 13, 3) := by decide +kernel
theorem dX8_isWalkSound_11 : decode cX8_isWalkSound 11 = .ok (.iload_n 1, 1) := by decide +kernel
theorem dX8_isWalkSound_12 : decode cX8_isWalkSound 12 = .ok (.iaload, 1) := by decide +kernel
theorem dX8_isWalkSound_13 : decode cX8_isWalkSound 13 = .ok (.istore_n 3, 1) := by decide +kernel
theorem dX8_isWalkSound_14 : decode cX8_isWalkSound 14 = .ok (.iload_n 2, 1) := by decide +kernel
theorem dX8_isWalkSound_15 : decode cX8_isWalkSound 15 = .ok (.iload_n 3, 1) := by decide +kernel
theorem dX8_isWalkSound_16 : decode cX8_isWalkSound 16 = .ok (.invokestatic 138, 3) := by decide +kernel
theorem dX8_isWalkSound_19 : decode cX8_isWalkSound 19 = .ok (.astore 4, 2) := by decide +kernel
theorem dX8_isWalkSound_21 : decode cX8_isWalkSound 21 = .ok (.aload_n 0, 1) := by decide +kernel
theorem dX8_isWalkSound_22 : decode cX8_isWalkSound 22 = .ok (.iload_n 1, 1) := by decide +kernel
theorem dX8_isWalkSound_23 : decode cX8_isWalkSound 23 = .ok (.invokevirtual 167, 3) := by decide +kernel
theorem dX8_isWalkSound_26 : decode cX8_isWalkSound 26 = .ok (.astore 5, 2) := by decide +kernel
theorem dX8_isWalkSound_28 : decode cX8_isWalkSound 28 = .ok (.iload_n 2, 1) := by decide +kernel
theorem dX8_isWalkSound_29 : decode cX8_isWalkSound 29 = .ok (.iload_n 3, 1) := by decide +kernel
theorem dX8_isWalkSound_30 : decode cX8_isWalkSound 30 = .ok (.iconst 1, 1) := by decide +kernel
theorem dX8_isWalkSound_31 : decode cX8_isWalkSound 31 = .ok (.iadd, 1) := by decide +kernel
theorem dX8_isWalkSound_32 : decode cX8_isWalkSound 32 = .ok (.invokestatic 138, 3) := by decide +kernel
theorem dX8_isWalkSound_35 : decode cX8_isWalkSound 35 = .ok (.iconst 1, 1) := by decide +kernel
theorem dX8_isWalkSound_36 : decode cX8_isWalkSound 36 = .ok (.iaload, 1) := by decide +kernel
theorem dX8_isWalkSound_37 : decode cX8_isWalkSound 37 = .ok (.istore 6, 2) := by decide +kernel
theorem dX8_isWalkSound_39 : decode cX8_isWalkSound 39 = .ok (.aload 4, 2) := by decide +kernel
theorem dX8_isWalkSound_41 : decode cX8_isWalkSound 41 = .ok (.iconst 0, 1) := by decide +kernel
theorem dX8_isWalkSound_42 : decode cX8_isWalkSound 42 = .ok (.iaload, 1) := by decide +kernel
theorem dX8_isWalkSound_43 : decode cX8_isWalkSound 43 = .ok (.iconst 0, 1) := by decide +kernel
theorem dX8_isWalkSound_44 : decode cX8_isWalkSound 44 = .ok (.iload_n 2, 1) := by decide +kernel
theorem dX8_isWalkSound_45 : decode cX8_isWalkSound 45 = .ok (.invokestatic 130, 3) := by decide +kernel
theorem dX8_isWalkSound_48 : decode cX8_isWalkSound 48 = .ok (.invokestatic 49, 3) := by decide +kernel
theorem dX8_isWalkSound_51 : decode cX8_isWalkSound 51 = .ok (.ifCond .eq 35, 3) := by decide +kernel
theorem dX8_isWalkSound_54 : decode cX8_isWalkSound 54 = .ok (.aload 4, 2) := by decide +kernel
theorem dX8_isWalkSound_56 : decode cX8_isWalkSound 56 = .ok (.iconst 1, 1) := by decide +kernel
theorem dX8_isWalkSound_57 : decode cX8_isWalkSound 57 = .ok (.iaload, 1) := by decide +kernel
theorem dX8_isWalkSound_58 : decode cX8_isWalkSound 58 = .ok (.iconst 1, 1) := by decide +kernel
theorem dX8_isWalkSound_59 : decode cX8_isWalkSound 59 = .ok (.iconst 2, 1) := by decide +kernel
theorem dX8_isWalkSound_60 : decode cX8_isWalkSound 60 = .ok (.iload_n 2, 1) := by decide +kernel
theorem dX8_isWalkSound_61 : decode cX8_isWalkSound 61 = .ok (.invokestatic 130, 3) := by decide +kernel
theorem dX8_isWalkSound_64 : decode cX8_isWalkSound 64 = .ok (.imul, 1) := by decide +kernel
theorem dX8_isWalkSound_65 : decode cX8_isWalkSound 65 = .ok (.invokestatic 49, 3) := by decide +kernel
theorem dX8_isWalkSound_68 : decode cX8_isWalkSound 68 = .ok (.ifCond .eq 18, 3) := by decide +kernel
theorem dX8_isWalkSound_71 : decode cX8_isWalkSound 71 = .ok (.iload_n 2, 1) := by decide +kernel
theorem dX8_isWalkSound_72 : decode cX8_isWalkSound 72 = .ok (.aload 5, 2) := by decide +kernel
theorem dX8_isWalkSound_74 : decode cX8_isWalkSound 74 = .ok (.iconst 0, 1) := by decide +kernel
theorem dX8_isWalkSound_75 : decode cX8_isWalkSound 75 = .ok (.invokestatic 192, 3) := by decide +kernel
theorem dX8_isWalkSound_78 : decode cX8_isWalkSound 78 = .ok (.iconst 1, 1) := by decide +kernel
theorem dX8_isWalkSound_79 : decode cX8_isWalkSound 79 = .ok (.if_icmp .ne 7, 3) := by decide +kernel
theorem dX8_isWalkSound_82 : decode cX8_isWalkSound 82 = .ok (.iconst 1, 1) := by decide +kernel
theorem dX8_isWalkSound_83 : decode cX8_isWalkSound 83 = .ok (.goto 4, 3) := by decide +kernel
theorem dX8_isWalkSound_86 : decode cX8_isWalkSound 86 = .ok (.iconst 0, 1) := by decide +kernel
theorem dX8_isWalkSound_87 : decode cX8_isWalkSound 87 = .ok (.istore 7, 2) := by decide +kernel
theorem dX8_isWalkSound_89 : decode cX8_isWalkSound 89 = .ok (.iload 7, 2) := by decide +kernel
theorem dX8_isWalkSound_91 : decode cX8_isWalkSound 91 = .ok (.ifCond .eq 67, 3) := by decide +kernel
theorem dX8_isWalkSound_94 : decode cX8_isWalkSound 94 = .ok (.iload_n 2, 1) := by decide +kernel
theorem dX8_isWalkSound_95 : decode cX8_isWalkSound 95 = .ok (.aload 5, 2) := by decide +kernel
theorem dX8_isWalkSound_97 : decode cX8_isWalkSound 97 = .ok (.iconst 1, 1) := by decide +kernel
theorem dX8_isWalkSound_98 : decode cX8_isWalkSound 98 = .ok (.invokestatic 192, 3) := by decide +kernel
theorem dX8_isWalkSound_101 : decode cX8_isWalkSound 101 = .ok (.iload_n 3, 1) := by decide +kernel
theorem dX8_isWalkSound_102 : decode cX8_isWalkSound 102 = .ok (.iconst 2, 1) := by decide +kernel
theorem dX8_isWalkSound_103 : decode cX8_isWalkSound 103 = .ok (.irem, 1) := by decide +kernel
theorem dX8_isWalkSound_104 : decode cX8_isWalkSound 104 = .ok (.iconst 1, 1) := by decide +kernel
theorem dX8_isWalkSound_105 : decode cX8_isWalkSound 105 = .ok (.if_icmp .ne 7, 3) := by decide +kernel
theorem dX8_isWalkSound_108 : decode cX8_isWalkSound 108 = .ok (.iconst 1, 1) := by decide +kernel
theorem dX8_isWalkSound_109 : decode cX8_isWalkSound 109 = .ok (.goto 4, 3) := by decide +kernel
theorem dX8_isWalkSound_112 : decode cX8_isWalkSound 112 = .ok (.iconst (-1), 1) := by decide +kernel
theorem dX8_isWalkSound_113 : decode cX8_isWalkSound 113 = .ok (.if_icmp .ne 45, 3) := by decide +kernel
theorem dX8_isWalkSound_116 : decode cX8_isWalkSound 116 = .ok (.iload_n 2, 1) := by decide +kernel
theorem dX8_isWalkSound_117 : decode cX8_isWalkSound 117 = .ok (.aload 5, 2) := by decide +kernel
theorem dX8_isWalkSound_119 : decode cX8_isWalkSound 119 = .ok (.iconst 0, 1) := by decide +kernel
theorem dX8_isWalkSound_120 : decode cX8_isWalkSound 120 = .ok (.aaload, 1) := by decide +kernel
theorem dX8_isWalkSound_121 : decode cX8_isWalkSound 121 = .ok (.aload 5, 2) := by decide +kernel
theorem dX8_isWalkSound_123 : decode cX8_isWalkSound 123 = .ok (.iconst 1, 1) := by decide +kernel
theorem dX8_isWalkSound_124 : decode cX8_isWalkSound 124 = .ok (.aaload, 1) := by decide +kernel
theorem dX8_isWalkSound_125 : decode cX8_isWalkSound 125 = .ok (.invokestatic 188, 3) := by decide +kernel
theorem dX8_isWalkSound_128 : decode cX8_isWalkSound 128 = .ok (.iload_n 3, 1) := by decide +kernel
theorem dX8_isWalkSound_129 : decode cX8_isWalkSound 129 = .ok (.iconst 2, 1) := by decide +kernel
theorem dX8_isWalkSound_130 : decode cX8_isWalkSound 130 = .ok (.irem, 1) := by decide +kernel
theorem dX8_isWalkSound_131 : decode cX8_isWalkSound 131 = .ok (.iconst 1, 1) := by decide +kernel
theorem dX8_isWalkSound_132 : decode cX8_isWalkSound 132 = .ok (.if_icmp .ne 9, 3) := by decide +kernel
theorem dX8_isWalkSound_135 : decode cX8_isWalkSound 135 = .ok (.iload 6, 2) := by decide +kernel
theorem dX8_isWalkSound_137 : decode cX8_isWalkSound 137 = .ok (.i2l, 1) := by decide +kernel
theorem dX8_isWalkSound_138 : decode cX8_isWalkSound 138 = .ok (.goto 7, 3) := by decide +kernel
theorem dX8_isWalkSound_141 : decode cX8_isWalkSound 141 = .ok (.iload 6, 2) := by decide +kernel
theorem dX8_isWalkSound_143 : decode cX8_isWalkSound 143 = .ok (.ineg, 1) := by decide +kernel
theorem dX8_isWalkSound_144 : decode cX8_isWalkSound 144 = .ok (.i2l, 1) := by decide +kernel
theorem dX8_isWalkSound_145 : decode cX8_isWalkSound 145 = .ok (.invokestatic 20, 3) := by decide +kernel
theorem dX8_isWalkSound_148 : decode cX8_isWalkSound 148 = .ok (.invokestatic 199, 3) := by decide +kernel
theorem dX8_isWalkSound_151 : decode cX8_isWalkSound 151 = .ok (.ifCond .ne 7, 3) := by decide +kernel
theorem dX8_isWalkSound_154 : decode cX8_isWalkSound 154 = .ok (.iconst 1, 1) := by decide +kernel
theorem dX8_isWalkSound_155 : decode cX8_isWalkSound 155 = .ok (.goto 4, 3) := by decide +kernel
theorem dX8_isWalkSound_158 : decode cX8_isWalkSound 158 = .ok (.iconst 0, 1) := by decide +kernel
theorem dX8_isWalkSound_159 : decode cX8_isWalkSound 159 = .ok (.ireturn, 1) := by decide +kernel
theorem dX8_isWhole_0 : decode cX8_isWhole 0 = .ok (.iconst 1, 1) := by decide +kernel
theorem dX8_isWhole_1 : decode cX8_isWhole 1 = .ok (.istore_n 1, 1) := by decide +kernel
theorem dX8_isWhole_2 : decode cX8_isWhole 2 = .ok (.iconst 0, 1) := by decide +kernel
theorem dX8_isWhole_3 : decode cX8_isWhole 3 = .ok (.istore_n 2, 1) := by decide +kernel
theorem dX8_isWhole_4 : decode cX8_isWhole 4 = .ok (.iload_n 2, 1) := by decide +kernel
theorem dX8_isWhole_5 : decode cX8_isWhole 5 = .ok (.iconst 3, 1) := by decide +kernel
theorem dX8_isWhole_6 : decode cX8_isWhole 6 = .ok (.if_icmp .ge 197, 3) := by decide +kernel
theorem dX8_isWhole_9 : decode cX8_isWhole 9 = .ok (.aload_n 0, 1) := by decide +kernel
theorem dX8_isWhole_10 : decode cX8_isWhole 10 = .ok (.getfield 24, 3) := by decide +kernel
theorem dX8_isWhole_13 : decode cX8_isWhole 13 = .ok (.iload_n 2, 1) := by decide +kernel
theorem dX8_isWhole_14 : decode cX8_isWhole 14 = .ok (.aaload, 1) := by decide +kernel
theorem dX8_isWhole_15 : decode cX8_isWhole 15 = .ok (.astore_n 3, 1) := by decide +kernel
theorem dX8_isWhole_16 : decode cX8_isWhole 16 = .ok (.aload_n 0, 1) := by decide +kernel
theorem dX8_isWhole_17 : decode cX8_isWhole 17 = .ok (.getfield 28, 3) := by decide +kernel
theorem dX8_isWhole_20 : decode cX8_isWhole 20 = .ok (.iload_n 2, 1) := by decide +kernel
theorem dX8_isWhole_21 : decode cX8_isWhole 21 = .ok (.aaload, 1) := by decide +kernel
theorem dX8_isWhole_22 : decode cX8_isWhole 22 = .ok (.astore 4, 2) := by decide +kernel
theorem dX8_isWhole_24 : decode cX8_isWhole 24 = .ok (.aload_n 0, 1) := by decide +kernel
theorem dX8_isWhole_25 : decode cX8_isWhole 25 = .ok (.getfield 35, 3) := by decide +kernel
theorem dX8_isWhole_28 : decode cX8_isWhole 28 = .ok (.iload_n 2, 1) := by decide +kernel
theorem dX8_isWhole_29 : decode cX8_isWhole 29 = .ok (.aaload, 1) := by decide +kernel
theorem dX8_isWhole_30 : decode cX8_isWhole 30 = .ok (.astore 5, 2) := by decide +kernel
theorem dX8_isWhole_32 : decode cX8_isWhole 32 = .ok (.aload 5, 2) := by decide +kernel
theorem dX8_isWhole_34 : decode cX8_isWhole 34 = .ok (.iconst 0, 1) := by decide +kernel
theorem dX8_isWhole_35 : decode cX8_isWhole 35 = .ok (.iaload, 1) := by decide +kernel
theorem dX8_isWhole_36 : decode cX8_isWhole 36 = .ok (.invokestatic 257, 3) := by decide +kernel
theorem dX8_isWhole_39 : decode cX8_isWhole 39 = .ok (.istore 6, 2) := by decide +kernel
theorem dX8_isWhole_41 : decode cX8_isWhole 41 = .ok (.iload_n 1, 1) := by decide +kernel
theorem dX8_isWhole_42 : decode cX8_isWhole 42 = .ok (.aload_n 0, 1) := by decide +kernel
theorem dX8_isWhole_43 : decode cX8_isWhole 43 = .ok (.iload_n 2, 1) := by decide +kernel
theorem dX8_isWhole_44 : decode cX8_isWhole 44 = .ok (.invokevirtual 277, 3) := by decide +kernel
theorem dX8_isWhole_47 : decode cX8_isWhole 47 = .ok (.ifCond .eq 65, 3) := by decide +kernel
theorem dX8_isWhole_50 : decode cX8_isWhole 50 = .ok (.aload_n 3, 1) := by decide +kernel
theorem dX8_isWhole_51 : decode cX8_isWhole 51 = .ok (.invokestatic 236, 3) := by decide +kernel
theorem dX8_isWhole_54 : decode cX8_isWhole 54 = .ok (.ifCond .ne 58, 3) := by decide +kernel
theorem dX8_isWhole_57 : decode cX8_isWhole 57 = .ok (.aload 4, 2) := by decide +kernel
theorem dX8_isWhole_59 : decode cX8_isWhole 59 = .ok (.invokestatic 236, 3) := by decide +kernel
theorem dX8_isWhole_62 : decode cX8_isWhole 62 = .ok (.ifCond .ne 50, 3) := by decide +kernel
theorem dX8_isWhole_65 : decode cX8_isWhole 65 = .ok (.aload_n 0, 1) := by decide +kernel
theorem dX8_isWhole_66 : decode cX8_isWhole 66 = .ok (.getfield 16, 3) := by decide +kernel
theorem dX8_isWhole_69 : decode cX8_isWhole 69 = .ok (.iload_n 2, 1) := by decide +kernel
theorem dX8_isWhole_70 : decode cX8_isWhole 70 = .ok (.iaload, 1) := by decide +kernel
theorem dX8_isWhole_71 : decode cX8_isWhole 71 = .ok (.aload_n 3, 1) := by decide +kernel
theorem dX8_isWhole_72 : decode cX8_isWhole 72 = .ok (.aload 4, 2) := by decide +kernel
theorem dX8_isWhole_74 : decode cX8_isWhole 74 = .ok (.invokestatic 188, 3) := by decide +kernel
theorem dX8_isWhole_77 : decode cX8_isWhole 77 = .ok (.iconst 0, 1) := by decide +kernel
theorem dX8_isWhole_78 : decode cX8_isWhole 78 = .ok (.iaload, 1) := by decide +kernel
theorem dX8_isWhole_79 : decode cX8_isWhole 79 = .ok (.ifCond .ne 7, 3) := by decide +kernel
theorem dX8_isWhole_82 : decode cX8_isWhole 82 = .ok (.iconst 1, 1) := by decide +kernel
theorem dX8_isWhole_83 : decode cX8_isWhole 83 = .ok (.goto 4, 3) := by decide +kernel
theorem dX8_isWhole_86 : decode cX8_isWhole 86 = .ok (.iconst 0, 1) := by decide +kernel
theorem dX8_isWhole_87 : decode cX8_isWhole 87 = .ok (.aload_n 3, 1) := by decide +kernel
theorem dX8_isWhole_88 : decode cX8_isWhole 88 = .ok (.iconst 0, 1) := by decide +kernel
theorem dX8_isWhole_89 : decode cX8_isWhole 89 = .ok (.iaload, 1) := by decide +kernel
theorem dX8_isWhole_90 : decode cX8_isWhole 90 = .ok (.ifCond .ne 14, 3) := by decide +kernel
theorem dX8_isWhole_93 : decode cX8_isWhole 93 = .ok (.aload 4, 2) := by decide +kernel
theorem dX8_isWhole_95 : decode cX8_isWhole 95 = .ok (.iconst 0, 1) := by decide +kernel
theorem dX8_isWhole_96 : decode cX8_isWhole 96 = .ok (.iaload, 1) := by decide +kernel
theorem dX8_isWhole_97 : decode cX8_isWhole 97 = .ok (.ifCond .ne 7, 3) := by decide +kernel
theorem dX8_isWhole_100 : decode cX8_isWhole 100 = .ok (.iconst 1, 1) := by decide +kernel
theorem dX8_isWhole_101 : decode cX8_isWhole 101 = .ok (.goto 4, 3) := by decide +kernel
theorem dX8_isWhole_104 : decode cX8_isWhole 104 = .ok (.iconst 0, 1) := by decide +kernel
theorem dX8_isWhole_105 : decode cX8_isWhole 105 = .ok (.if_icmp .ne 7, 3) := by decide +kernel
theorem dX8_isWhole_108 : decode cX8_isWhole 108 = .ok (.iconst 1, 1) := by decide +kernel
theorem dX8_isWhole_109 : decode cX8_isWhole 109 = .ok (.goto 4, 3) := by decide +kernel
theorem dX8_isWhole_112 : decode cX8_isWhole 112 = .ok (.iconst 0, 1) := by decide +kernel
theorem dX8_isWhole_113 : decode cX8_isWhole 113 = .ok (.iand, 1) := by decide +kernel
theorem dX8_isWhole_114 : decode cX8_isWhole 114 = .ok (.istore_n 1, 1) := by decide +kernel
theorem dX8_isWhole_115 : decode cX8_isWhole 115 = .ok (.iload_n 1, 1) := by decide +kernel
theorem dX8_isWhole_116 : decode cX8_isWhole 116 = .ok (.aload 5, 2) := by decide +kernel
theorem dX8_isWhole_118 : decode cX8_isWhole 118 = .ok (.iconst 1, 1) := by decide +kernel
theorem dX8_isWhole_119 : decode cX8_isWhole 119 = .ok (.iaload, 1) := by decide +kernel
theorem dX8_isWhole_120 : decode cX8_isWhole 120 = .ok (.aload 5, 2) := by decide +kernel
theorem dX8_isWhole_122 : decode cX8_isWhole 122 = .ok (.iconst 1, 1) := by decide +kernel
theorem dX8_isWhole_123 : decode cX8_isWhole 123 = .ok (.iaload, 1) := by decide +kernel
theorem dX8_isWhole_124 : decode cX8_isWhole 124 = .ok (.imul, 1) := by decide +kernel
theorem dX8_isWhole_125 : decode cX8_isWhole 125 = .ok (.aload 5, 2) := by decide +kernel
theorem dX8_isWhole_127 : decode cX8_isWhole 127 = .ok (.iconst 3, 1) := by decide +kernel
theorem dX8_isWhole_128 : decode cX8_isWhole 128 = .ok (.iaload, 1) := by decide +kernel
theorem dX8_isWhole_129 : decode cX8_isWhole 129 = .ok (.aload 5, 2) := by decide +kernel
theorem dX8_isWhole_131 : decode cX8_isWhole 131 = .ok (.iconst 3, 1) := by decide +kernel
theorem dX8_isWhole_132 : decode cX8_isWhole 132 = .ok (.iaload, 1) := by decide +kernel
theorem dX8_isWhole_133 : decode cX8_isWhole 133 = .ok (.imul, 1) := by decide +kernel
theorem dX8_isWhole_134 : decode cX8_isWhole 134 = .ok (.iadd, 1) := by decide +kernel
theorem dX8_isWhole_135 : decode cX8_isWhole 135 = .ok (.aload 5, 2) := by decide +kernel
theorem dX8_isWhole_137 : decode cX8_isWhole 137 = .ok (.iconst 0, 1) := by decide +kernel
theorem dX8_isWhole_138 : decode cX8_isWhole 138 = .ok (.iaload, 1) := by decide +kernel
theorem dX8_isWhole_139 : decode cX8_isWhole 139 = .ok (.irem, 1) := by decide +kernel
theorem dX8_isWhole_140 : decode cX8_isWhole 140 = .ok (.ifCond .ne 54, 3) := by decide +kernel
theorem dX8_isWhole_143 : decode cX8_isWhole 143 = .ok (.iload 6, 2) := by decide +kernel
theorem dX8_isWhole_145 : decode cX8_isWhole 145 = .ok (.iload 6, 2) := by decide +kernel
theorem dX8_isWhole_147 : decode cX8_isWhole 147 = .ok (.imul, 1) := by decide +kernel
theorem dX8_isWhole_148 : decode cX8_isWhole 148 = .ok (.iconst 1, 1) := by decide +kernel
theorem dX8_isWhole_149 : decode cX8_isWhole 149 = .ok (.iadd, 1) := by decide +kernel
theorem dX8_isWhole_150 : decode cX8_isWhole 150 = .ok (.aload 5, 2) := by decide +kernel
theorem dX8_isWhole_152 : decode cX8_isWhole 152 = .ok (.iconst 0, 1) := by decide +kernel
theorem dX8_isWhole_153 : decode cX8_isWhole 153 = .ok (.iaload, 1) := by decide +kernel
theorem dX8_isWhole_154 : decode cX8_isWhole 154 = .ok (.irem, 1) := by decide +kernel
theorem dX8_isWhole_155 : decode cX8_isWhole 155 = .ok (.ifCond .ne 39, 3) := by decide +kernel
theorem dX8_isWhole_158 : decode cX8_isWhole 158 = .ok (.aload 5, 2) := by decide +kernel
theorem dX8_isWhole_160 : decode cX8_isWhole 160 = .ok (.iconst 1, 1) := by decide +kernel
theorem dX8_isWhole_161 : decode cX8_isWhole 161 = .ok (.iaload, 1) := by decide +kernel
theorem dX8_isWhole_162 : decode cX8_isWhole 162 = .ok (.aload 5, 2) := by decide +kernel
theorem dX8_isWhole_164 : decode cX8_isWhole 164 = .ok (.iconst 4, 1) := by decide +kernel
theorem dX8_isWhole_165 : decode cX8_isWhole 165 = .ok (.iaload, 1) := by decide +kernel
theorem dX8_isWhole_166 : decode cX8_isWhole 166 = .ok (.invokestatic 196, 3) := by decide +kernel
theorem dX8_isWhole_169 : decode cX8_isWhole 169 = .ok (.imul, 1) := by decide +kernel
theorem dX8_isWhole_170 : decode cX8_isWhole 170 = .ok (.aload 5, 2) := by decide +kernel
theorem dX8_isWhole_172 : decode cX8_isWhole 172 = .ok (.iconst 2, 1) := by decide +kernel
theorem dX8_isWhole_173 : decode cX8_isWhole 173 = .ok (.iaload, 1) := by decide +kernel
theorem dX8_isWhole_174 : decode cX8_isWhole 174 = .ok (.aload 5, 2) := by decide +kernel
theorem dX8_isWhole_176 : decode cX8_isWhole 176 = .ok (.iconst 3, 1) := by decide +kernel
theorem dX8_isWhole_177 : decode cX8_isWhole 177 = .ok (.iaload, 1) := by decide +kernel
theorem dX8_isWhole_178 : decode cX8_isWhole 178 = .ok (.invokestatic 196, 3) := by decide +kernel
theorem dX8_isWhole_181 : decode cX8_isWhole 181 = .ok (.imul, 1) := by decide +kernel
theorem dX8_isWhole_182 : decode cX8_isWhole 182 = .ok (.iadd, 1) := by decide +kernel
theorem dX8_isWhole_183 : decode cX8_isWhole 183 = .ok (.aload 5, 2) := by decide +kernel
theorem dX8_isWhole_185 : decode cX8_isWhole 185 = .ok (.iconst 0, 1) := by decide +kernel
theorem dX8_isWhole_186 : decode cX8_isWhole 186 = .ok (.iaload, 1) := by decide +kernel
theorem dX8_isWhole_187 : decode cX8_isWhole 187 = .ok (.if_icmp .ne 7, 3) := by decide +kernel
theorem dX8_isWhole_190 : decode cX8_isWhole 190 = .ok (.iconst 1, 1) := by decide +kernel
theorem dX8_isWhole_191 : decode cX8_isWhole 191 = .ok (.goto 4, 3) := by decide +kernel
theorem dX8_isWhole_194 : decode cX8_isWhole 194 = .ok (.iconst 0, 1) := by decide +kernel
theorem dX8_isWhole_195 : decode cX8_isWhole 195 = .ok (.iand, 1) := by decide +kernel
theorem dX8_isWhole_196 : decode cX8_isWhole 196 = .ok (.istore_n 1, 1) := by decide +kernel
theorem dX8_isWhole_197 : decode cX8_isWhole 197 = .ok (.iinc 2 1, 3) := by decide +kernel
theorem dX8_isWhole_200 : decode cX8_isWhole 200 = .ok (.goto (-196), 3) := by decide +kernel
theorem dX8_isWhole_203 : decode cX8_isWhole 203 = .ok (.iload_n 1, 1) := by decide +kernel
theorem dX8_isWhole_204 : decode cX8_isWhole 204 = .ok (.ireturn, 1) := by decide +kernel
theorem dX8_isSound_0 : decode cX8_isSound 0 = .ok (.aload_n 0, 1) := by decide +kernel
theorem dX8_isSound_1 : decode cX8_isSound 1 = .ok (.iconst 0, 1) := by decide +kernel
theorem dX8_isSound_2 : decode cX8_isSound 2 = .ok (.putfield 41, 3) := by decide +kernel
theorem dX8_isSound_5 : decode cX8_isSound 5 = .ok (.aload_n 0, 1) := by decide +kernel
theorem dX8_isSound_6 : decode cX8_isSound 6 = .ok (.invokevirtual 280, 3) := by decide +kernel
theorem dX8_isSound_9 : decode cX8_isSound 9 = .ok (.ireturn, 1) := by decide +kernel
theorem dX8_digest_0 : decode cX8_digest 0 = .ok (.aload_n 0, 1) := by decide +kernel
theorem dX8_digest_1 : decode cX8_digest 1 = .ok (.iconst 0, 1) := by decide +kernel
theorem dX8_digest_2 : decode cX8_digest 2 = .ok (.putfield 41, 3) := by decide +kernel
theorem dX8_digest_5 : decode cX8_digest 5 = .ok (.ldc2_w 284, 3) := by decide +kernel
theorem dX8_digest_8 : decode cX8_digest 8 = .ok (.lstore_n 1, 1) := by decide +kernel
theorem dX8_digest_9 : decode cX8_digest 9 = .ok (.iconst 0, 1) := by decide +kernel
theorem dX8_digest_10 : decode cX8_digest 10 = .ok (.istore_n 3, 1) := by decide +kernel
theorem dX8_digest_11 : decode cX8_digest 11 = .ok (.iload_n 3, 1) := by decide +kernel
theorem dX8_digest_12 : decode cX8_digest 12 = .ok (.iconst 3, 1) := by decide +kernel
theorem dX8_digest_13 : decode cX8_digest 13 = .ok (.if_icmp .ge 113, 3) := by decide +kernel
theorem dX8_digest_16 : decode cX8_digest 16 = .ok (.iconst 0, 1) := by decide +kernel
theorem dX8_digest_17 : decode cX8_digest 17 = .ok (.istore 4, 2) := by decide +kernel
theorem dX8_digest_19 : decode cX8_digest 19 = .ok (.iload 4, 2) := by decide +kernel
theorem dX8_digest_21 : decode cX8_digest 21 = .ok (.bipush 6, 2) := by decide +kernel
theorem dX8_digest_23 : decode cX8_digest 23 = .ok (.if_icmp .ge 24, 3) := by decide +kernel
theorem dX8_digest_26 : decode cX8_digest 26 = .ok (.lload_n 1, 1) := by decide +kernel
theorem dX8_digest_27 : decode cX8_digest 27 = .ok (.ldc2_w 286, 3) := by decide +kernel
theorem dX8_digest_30 : decode cX8_digest 30 = .ok (.lmul, 1) := by decide +kernel
theorem dX8_digest_31 : decode cX8_digest 31 = .ok (.aload_n 0, 1) := by decide +kernel
theorem dX8_digest_32 : decode cX8_digest 32 = .ok (.iload_n 3, 1) := by decide +kernel
theorem dX8_digest_33 : decode cX8_digest 33 = .ok (.iload 4, 2) := by decide +kernel
theorem dX8_digest_35 : decode cX8_digest 35 = .ok (.invokevirtual 162, 3) := by decide +kernel
theorem dX8_digest_38 : decode cX8_digest 38 = .ok (.i2l, 1) := by decide +kernel
theorem dX8_digest_39 : decode cX8_digest 39 = .ok (.ladd, 1) := by decide +kernel
theorem dX8_digest_40 : decode cX8_digest 40 = .ok (.lstore_n 1, 1) := by decide +kernel
theorem dX8_digest_41 : decode cX8_digest 41 = .ok (.iinc 4 1, 3) := by decide +kernel
theorem dX8_digest_44 : decode cX8_digest 44 = .ok (.goto (-25), 3) := by decide +kernel
theorem dX8_digest_47 : decode cX8_digest 47 = .ok (.aload_n 0, 1) := by decide +kernel
theorem dX8_digest_48 : decode cX8_digest 48 = .ok (.iload_n 3, 1) := by decide +kernel
theorem dX8_digest_49 : decode cX8_digest 49 = .ok (.invokevirtual 167, 3) := by decide +kernel
theorem dX8_digest_52 : decode cX8_digest 52 = .ok (.astore 4, 2) := by decide +kernel
theorem dX8_digest_54 : decode cX8_digest 54 = .ok (.iconst 0, 1) := by decide +kernel
theorem dX8_digest_55 : decode cX8_digest 55 = .ok (.istore 5, 2) := by decide +kernel
theorem dX8_digest_57 : decode cX8_digest 57 = .ok (.iload 5, 2) := by decide +kernel
theorem dX8_digest_59 : decode cX8_digest 59 = .ok (.iconst 4, 1) := by decide +kernel
theorem dX8_digest_60 : decode cX8_digest 60 = .ok (.if_icmp .ge 24, 3) := by decide +kernel
theorem dX8_digest_63 : decode cX8_digest 63 = .ok (.lload_n 1, 1) := by decide +kernel
theorem dX8_digest_64 : decode cX8_digest 64 = .ok (.ldc2_w 286, 3) := by decide +kernel
theorem dX8_digest_67 : decode cX8_digest 67 = .ok (.lmul, 1) := by decide +kernel
theorem dX8_digest_68 : decode cX8_digest 68 = .ok (.aload 4, 2) := by decide +kernel
theorem dX8_digest_70 : decode cX8_digest 70 = .ok (.iload 5, 2) := by decide +kernel
theorem dX8_digest_72 : decode cX8_digest 72 = .ok (.aaload, 1) := by decide +kernel
theorem dX8_digest_73 : decode cX8_digest 73 = .ok (.invokestatic 181, 3) := by decide +kernel
theorem dX8_digest_76 : decode cX8_digest 76 = .ok (.ladd, 1) := by decide +kernel
theorem dX8_digest_77 : decode cX8_digest 77 = .ok (.lstore_n 1, 1) := by decide +kernel
theorem dX8_digest_78 : decode cX8_digest 78 = .ok (.iinc 5 1, 3) := by decide +kernel
theorem dX8_digest_81 : decode cX8_digest 81 = .ok (.goto (-24), 3) := by decide +kernel
theorem dX8_digest_84 : decode cX8_digest 84 = .ok (.iconst 1, 1) := by decide +kernel
theorem dX8_digest_85 : decode cX8_digest 85 = .ok (.istore 5, 2) := by decide +kernel
theorem dX8_digest_87 : decode cX8_digest 87 = .ok (.iload 5, 2) := by decide +kernel
theorem dX8_digest_89 : decode cX8_digest 89 = .ok (.iconst 3, 1) := by decide +kernel
theorem dX8_digest_90 : decode cX8_digest 90 = .ok (.if_icmp .ge 30, 3) := by decide +kernel
theorem dX8_digest_93 : decode cX8_digest 93 = .ok (.lload_n 1, 1) := by decide +kernel
theorem dX8_digest_94 : decode cX8_digest 94 = .ok (.ldc2_w 286, 3) := by decide +kernel
theorem dX8_digest_97 : decode cX8_digest 97 = .ok (.lmul, 1) := by decide +kernel
theorem dX8_digest_98 : decode cX8_digest 98 = .ok (.aload_n 0, 1) := by decide +kernel
theorem dX8_digest_99 : decode cX8_digest 99 = .ok (.getfield 9, 3) := by decide +kernel
theorem dX8_digest_102 : decode cX8_digest 102 = .ok (.iload_n 3, 1) := by decide +kernel
theorem dX8_digest_103 : decode cX8_digest 103 = .ok (.iaload, 1) := by decide +kernel
theorem dX8_digest_104 : decode cX8_digest 104 = .ok (.aload 4, 2) := by decide +kernel
theorem dX8_digest_106 : decode cX8_digest 106 = .ok (.iload 5, 2) := by decide +kernel
theorem dX8_digest_108 : decode cX8_digest 108 = .ok (.invokestatic 192, 3) := by decide +kernel
theorem dX8_digest_111 : decode cX8_digest 111 = .ok (.i2l, 1) := by decide +kernel
theorem dX8_digest_112 : decode cX8_digest 112 = .ok (.ladd, 1) := by decide +kernel
theorem dX8_digest_113 : decode cX8_digest 113 = .ok (.lstore_n 1, 1) := by decide +kernel
theorem dX8_digest_114 : decode cX8_digest 114 = .ok (.iinc 5 1, 3) := by decide +kernel
theorem dX8_digest_117 : decode cX8_digest 117 = .ok (.goto (-30), 3) := by decide +kernel
theorem dX8_digest_120 : decode cX8_digest 120 = .ok (.iinc 3 1, 3) := by decide +kernel
theorem dX8_digest_123 : decode cX8_digest 123 = .ok (.goto (-112), 3) := by decide +kernel
theorem dX8_digest_126 : decode cX8_digest 126 = .ok (.iconst 0, 1) := by decide +kernel
theorem dX8_digest_127 : decode cX8_digest 127 = .ok (.istore_n 3, 1) := by decide +kernel
theorem dX8_digest_128 : decode cX8_digest 128 = .ok (.iload_n 3, 1) := by decide +kernel
theorem dX8_digest_129 : decode cX8_digest 129 = .ok (.iconst 3, 1) := by decide +kernel
theorem dX8_digest_130 : decode cX8_digest 130 = .ok (.if_icmp .ge 87, 3) := by decide +kernel
theorem dX8_digest_133 : decode cX8_digest 133 = .ok (.lload_n 1, 1) := by decide +kernel
theorem dX8_digest_134 : decode cX8_digest 134 = .ok (.ldc2_w 286, 3) := by decide +kernel
theorem dX8_digest_137 : decode cX8_digest 137 = .ok (.lmul, 1) := by decide +kernel
theorem dX8_digest_138 : decode cX8_digest 138 = .ok (.aload_n 0, 1) := by decide +kernel
theorem dX8_digest_139 : decode cX8_digest 139 = .ok (.getfield 16, 3) := by decide +kernel
theorem dX8_digest_142 : decode cX8_digest 142 = .ok (.iload_n 3, 1) := by decide +kernel
theorem dX8_digest_143 : decode cX8_digest 143 = .ok (.iaload, 1) := by decide +kernel
theorem dX8_digest_144 : decode cX8_digest 144 = .ok (.i2l, 1) := by decide +kernel
theorem dX8_digest_145 : decode cX8_digest 145 = .ok (.ladd, 1) := by decide +kernel
theorem dX8_digest_146 : decode cX8_digest 146 = .ok (.lstore_n 1, 1) := by decide +kernel
theorem dX8_digest_147 : decode cX8_digest 147 = .ok (.lload_n 1, 1) := by decide +kernel
theorem dX8_digest_148 : decode cX8_digest 148 = .ok (.ldc2_w 286, 3) := by decide +kernel
theorem dX8_digest_151 : decode cX8_digest 151 = .ok (.lmul, 1) := by decide +kernel
theorem dX8_digest_152 : decode cX8_digest 152 = .ok (.aload_n 0, 1) := by decide +kernel
theorem dX8_digest_153 : decode cX8_digest 153 = .ok (.getfield 24, 3) := by decide +kernel
theorem dX8_digest_156 : decode cX8_digest 156 = .ok (.iload_n 3, 1) := by decide +kernel
theorem dX8_digest_157 : decode cX8_digest 157 = .ok (.aaload, 1) := by decide +kernel
theorem dX8_digest_158 : decode cX8_digest 158 = .ok (.invokestatic 181, 3) := by decide +kernel
theorem dX8_digest_161 : decode cX8_digest 161 = .ok (.ladd, 1) := by decide +kernel
theorem dX8_digest_162 : decode cX8_digest 162 = .ok (.ldc2_w 286, 3) := by decide +kernel
theorem dX8_digest_165 : decode cX8_digest 165 = .ok (.lmul, 1) := by decide +kernel
theorem dX8_digest_166 : decode cX8_digest 166 = .ok (.aload_n 0, 1) := by decide +kernel
theorem dX8_digest_167 : decode cX8_digest 167 = .ok (.getfield 28, 3) := by decide +kernel
theorem dX8_digest_170 : decode cX8_digest 170 = .ok (.iload_n 3, 1) := by decide +kernel
theorem dX8_digest_171 : decode cX8_digest 171 = .ok (.aaload, 1) := by decide +kernel
theorem dX8_digest_172 : decode cX8_digest 172 = .ok (.invokestatic 181, 3) := by decide +kernel
theorem dX8_digest_175 : decode cX8_digest 175 = .ok (.ladd, 1) := by decide +kernel
theorem dX8_digest_176 : decode cX8_digest 176 = .ok (.lstore_n 1, 1) := by decide +kernel
theorem dX8_digest_177 : decode cX8_digest 177 = .ok (.lload_n 1, 1) := by decide +kernel
theorem dX8_digest_178 : decode cX8_digest 178 = .ok (.ldc2_w 286, 3) := by decide +kernel
theorem dX8_digest_181 : decode cX8_digest 181 = .ok (.lmul, 1) := by decide +kernel
theorem dX8_digest_182 : decode cX8_digest 182 = .ok (.aload_n 0, 1) := by decide +kernel
theorem dX8_digest_183 : decode cX8_digest 183 = .ok (.getfield 24, 3) := by decide +kernel
theorem dX8_digest_186 : decode cX8_digest 186 = .ok (.iload_n 3, 1) := by decide +kernel
theorem dX8_digest_187 : decode cX8_digest 187 = .ok (.aaload, 1) := by decide +kernel
theorem dX8_digest_188 : decode cX8_digest 188 = .ok (.iconst 0, 1) := by decide +kernel
theorem dX8_digest_189 : decode cX8_digest 189 = .ok (.invokestatic 121, 3) := by decide +kernel
theorem dX8_digest_192 : decode cX8_digest 192 = .ok (.i2l, 1) := by decide +kernel
theorem dX8_digest_193 : decode cX8_digest 193 = .ok (.ladd, 1) := by decide +kernel
theorem dX8_digest_194 : decode cX8_digest 194 = .ok (.ldc2_w 286, 3) := by decide +kernel
theorem dX8_digest_197 : decode cX8_digest 197 = .ok (.lmul, 1) := by decide +kernel
theorem dX8_digest_198 : decode cX8_digest 198 = .ok (.aload_n 0, 1) := by decide +kernel
theorem dX8_digest_199 : decode cX8_digest 199 = .ok (.getfield 28, 3) := by decide +kernel
theorem dX8_digest_202 : decode cX8_digest 202 = .ok (.iload_n 3, 1) := by decide +kernel
theorem dX8_digest_203 : decode cX8_digest 203 = .ok (.aaload, 1) := by decide +kernel
theorem dX8_digest_204 : decode cX8_digest 204 = .ok (.iconst 0, 1) := by decide +kernel
theorem dX8_digest_205 : decode cX8_digest 205 = .ok (.invokestatic 121, 3) := by decide +kernel
theorem dX8_digest_208 : decode cX8_digest 208 = .ok (.i2l, 1) := by decide +kernel
theorem dX8_digest_209 : decode cX8_digest 209 = .ok (.ladd, 1) := by decide +kernel
theorem dX8_digest_210 : decode cX8_digest 210 = .ok (.lstore_n 1, 1) := by decide +kernel
theorem dX8_digest_211 : decode cX8_digest 211 = .ok (.iinc 3 1, 3) := by decide +kernel
theorem dX8_digest_214 : decode cX8_digest 214 = .ok (.goto (-86), 3) := by decide +kernel
theorem dX8_digest_217 : decode cX8_digest 217 = .ok (.iconst 0, 1) := by decide +kernel
theorem dX8_digest_218 : decode cX8_digest 218 = .ok (.istore_n 3, 1) := by decide +kernel
theorem dX8_digest_219 : decode cX8_digest 219 = .ok (.iload_n 3, 1) := by decide +kernel
theorem dX8_digest_220 : decode cX8_digest 220 = .ok (.iconst 3, 1) := by decide +kernel
theorem dX8_digest_221 : decode cX8_digest 221 = .ok (.if_icmp .ge 40, 3) := by decide +kernel
theorem dX8_digest_224 : decode cX8_digest 224 = .ok (.iconst 0, 1) := by decide +kernel
theorem dX8_digest_225 : decode cX8_digest 225 = .ok (.istore 4, 2) := by decide +kernel
theorem dX8_digest_227 : decode cX8_digest 227 = .ok (.iload 4, 2) := by decide +kernel
theorem dX8_digest_229 : decode cX8_digest 229 = .ok (.bipush 8, 2) := by decide +kernel
theorem dX8_digest_231 : decode cX8_digest 231 = .ok (.if_icmp .ge 24, 3) := by decide +kernel
theorem dX8_digest_234 : decode cX8_digest 234 = .ok (.lload_n 1, 1) := by decide +kernel
theorem dX8_digest_235 : decode cX8_digest 235 = .ok (.ldc2_w 286, 3) := by decide +kernel
theorem dX8_digest_238 : decode cX8_digest 238 = .ok (.lmul, 1) := by decide +kernel
theorem dX8_digest_239 : decode cX8_digest 239 = .ok (.aload_n 0, 1) := by decide +kernel
theorem dX8_digest_240 : decode cX8_digest 240 = .ok (.iload_n 3, 1) := by decide +kernel
theorem dX8_digest_241 : decode cX8_digest 241 = .ok (.iload 4, 2) := by decide +kernel
theorem dX8_digest_243 : decode cX8_digest 243 = .ok (.invokevirtual 271, 3) := by decide +kernel
theorem dX8_digest_246 : decode cX8_digest 246 = .ok (.i2l, 1) := by decide +kernel
theorem dX8_digest_247 : decode cX8_digest 247 = .ok (.ladd, 1) := by decide +kernel
theorem dX8_digest_248 : decode cX8_digest 248 = .ok (.lstore_n 1, 1) := by decide +kernel
theorem dX8_digest_249 : decode cX8_digest 249 = .ok (.iinc 4 1, 3) := by decide +kernel
theorem dX8_digest_252 : decode cX8_digest 252 = .ok (.goto (-25), 3) := by decide +kernel
theorem dX8_digest_255 : decode cX8_digest 255 = .ok (.iinc 3 1, 3) := by decide +kernel
theorem dX8_digest_258 : decode cX8_digest 258 = .ok (.goto (-39), 3) := by decide +kernel
theorem dX8_digest_261 : decode cX8_digest 261 = .ok (.iconst 0, 1) := by decide +kernel
theorem dX8_digest_262 : decode cX8_digest 262 = .ok (.istore_n 3, 1) := by decide +kernel
theorem dX8_digest_263 : decode cX8_digest 263 = .ok (.iload_n 3, 1) := by decide +kernel
theorem dX8_digest_264 : decode cX8_digest 264 = .ok (.iconst 5, 1) := by decide +kernel
theorem dX8_digest_265 : decode cX8_digest 265 = .ok (.if_icmp .ge 23, 3) := by decide +kernel
theorem dX8_digest_268 : decode cX8_digest 268 = .ok (.lload_n 1, 1) := by decide +kernel
theorem dX8_digest_269 : decode cX8_digest 269 = .ok (.ldc2_w 286, 3) := by decide +kernel
theorem dX8_digest_272 : decode cX8_digest 272 = .ok (.lmul, 1) := by decide +kernel
theorem dX8_digest_273 : decode cX8_digest 273 = .ok (.aload_n 0, 1) := by decide +kernel
theorem dX8_digest_274 : decode cX8_digest 274 = .ok (.getfield 38, 3) := by decide +kernel
theorem dX8_digest_277 : decode cX8_digest 277 = .ok (.iload_n 3, 1) := by decide +kernel
theorem dX8_digest_278 : decode cX8_digest 278 = .ok (.iaload, 1) := by decide +kernel
theorem dX8_digest_279 : decode cX8_digest 279 = .ok (.i2l, 1) := by decide +kernel
theorem dX8_digest_280 : decode cX8_digest 280 = .ok (.ladd, 1) := by decide +kernel
theorem dX8_digest_281 : decode cX8_digest 281 = .ok (.lstore_n 1, 1) := by decide +kernel
theorem dX8_digest_282 : decode cX8_digest 282 = .ok (.iinc 3 1, 3) := by decide +kernel
theorem dX8_digest_285 : decode cX8_digest 285 = .ok (.goto (-22), 3) := by decide +kernel
theorem dX8_digest_288 : decode cX8_digest 288 = .ok (.lload_n 1, 1) := by decide +kernel
theorem dX8_digest_289 : decode cX8_digest 289 = .ok (.ldc2_w 286, 3) := by decide +kernel
theorem dX8_digest_292 : decode cX8_digest 292 = .ok (.lmul, 1) := by decide +kernel
theorem dX8_digest_293 : decode cX8_digest 293 = .ok (.aload_n 0, 1) := by decide +kernel
theorem dX8_digest_294 : decode cX8_digest 294 = .ok (.invokevirtual 280, 3) := by decide +kernel
theorem dX8_digest_297 : decode cX8_digest 297 = .ok (.ifCond .eq 7, 3) := by decide +kernel
theorem dX8_digest_300 : decode cX8_digest 300 = .ok (.iconst 1, 1) := by decide +kernel
theorem dX8_digest_301 : decode cX8_digest 301 = .ok (.goto 4, 3) := by decide +kernel
theorem dX8_digest_304 : decode cX8_digest 304 = .ok (.iconst 0, 1) := by decide +kernel
theorem dX8_digest_305 : decode cX8_digest 305 = .ok (.i2l, 1) := by decide +kernel
theorem dX8_digest_306 : decode cX8_digest 306 = .ok (.ladd, 1) := by decide +kernel
theorem dX8_digest_307 : decode cX8_digest 307 = .ok (.lreturn, 1) := by decide +kernel
