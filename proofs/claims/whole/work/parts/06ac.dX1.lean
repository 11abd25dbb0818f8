theorem dX1_translate_145 : decode cX1_translate 145 = .ok (.invokevirtual 97, 3) := by decide +kernel
theorem dX1_translate_148 : decode cX1_translate 148 = .ok (.bipush 16, 2) := by decide +kernel
theorem dX1_translate_150 : decode cX1_translate 150 = .ok (.aload_n 0, 1) := by decide +kernel
theorem dX1_translate_151 : decode cX1_translate 151 = .ok (.getfield 88, 3) := by decide +kernel
theorem dX1_translate_154 : decode cX1_translate 154 = .ok (.sipush 4095, 3) := by decide +kernel
theorem dX1_translate_157 : decode cX1_translate 157 = .ok (.iand, 1) := by decide +kernel
theorem dX1_translate_158 : decode cX1_translate 158 = .ok (.imul, 1) := by decide +kernel
theorem dX1_translate_159 : decode cX1_translate 159 = .ok (.iload_n 1, 1) := by decide +kernel
theorem dX1_translate_160 : decode cX1_translate 160 = .ok (.bipush 16, 2) := by decide +kernel
theorem dX1_translate_162 : decode cX1_translate 162 = .ok (.irem, 1) := by decide +kernel
theorem dX1_translate_163 : decode cX1_translate 163 = .ok (.iadd, 1) := by decide +kernel
theorem dX1_translate_164 : decode cX1_translate 164 = .ok (.ireturn, 1) := by decide +kernel
theorem dX1_reach_0 : decode cX1_reach 0 = .ok (.iconst 0, 1) := by decide +kernel
theorem dX1_reach_1 : decode cX1_reach 1 = .ok (.istore 5, 2) := by decide +kernel
theorem dX1_reach_3 : decode cX1_reach 3 = .ok (.iload 5, 2) := by decide +kernel
theorem dX1_reach_5 : decode cX1_reach 5 = .ok (.iload_n 2, 1) := by decide +kernel
theorem dX1_reach_6 : decode cX1_reach 6 = .ok (.if_icmp .ge 96, 3) := by decide +kernel
theorem dX1_reach_9 : decode cX1_reach 9 = .ok (.iload_n 1, 1) := by decide +kernel
theorem dX1_reach_10 : decode cX1_reach 10 = .ok (.iload 5, 2) := by decide +kernel
theorem dX1_reach_12 : decode cX1_reach 12 = .ok (.iadd, 1) := by decide +kernel
theorem dX1_reach_13 : decode cX1_reach 13 = .ok (.ldc 67, 2) := by decide +kernel
theorem dX1_reach_15 : decode cX1_reach 15 = .ok (.iand, 1) := by decide +kernel
theorem dX1_reach_16 : decode cX1_reach 16 = .ok (.istore 6, 2) := by decide +kernel
theorem dX1_reach_18 : decode cX1_reach 18 = .ok (.iload 5, 2) := by decide +kernel
theorem dX1_reach_20 : decode cX1_reach 20 = .ok (.ifCond .eq 11, 3) := by decide +kernel
theorem dX1_reach_23 : decode cX1_reach 23 = .ok (.iload 6, 2) := by decide +kernel
theorem dX1_reach_25 : decode cX1_reach 25 = .ok (.bipush 16, 2) := by decide +kernel
theorem dX1_reach_27 : decode cX1_reach 27 = .ok (.irem, 1) := by decide +kernel
theorem dX1_reach_28 : decode cX1_reach 28 = .ok (.ifCond .ne 50, 3) := by decide +kernel
theorem dX1_reach_31 : decode cX1_reach 31 = .ok (.aload_n 0, 1) := by decide +kernel
theorem dX1_reach_32 : decode cX1_reach 32 = .ok (.iload 6, 2) := by decide +kernel
theorem dX1_reach_34 : decode cX1_reach 34 = .ok (.iload_n 3, 1) := by decide +kernel
theorem dX1_reach_35 : decode cX1_reach 35 = .ok (.iconst 3, 1) := by decide +kernel
theorem dX1_reach_36 : decode cX1_reach 36 = .ok (.iand, 1) := by decide +kernel
theorem dX1_reach_37 : decode cX1_reach 37 = .ok (.iload 4, 2) := by decide +kernel
theorem dX1_reach_39 : decode cX1_reach 39 = .ok (.iconst 1, 1) := by decide +kernel
theorem dX1_reach_40 : decode cX1_reach 40 = .ok (.invokevirtual 109, 3) := by decide +kernel
theorem dX1_reach_43 : decode cX1_reach 43 = .ok (.istore 7, 2) := by decide +kernel
theorem dX1_reach_45 : decode cX1_reach 45 = .ok (.iload 7, 2) := by decide +kernel
theorem dX1_reach_47 : decode cX1_reach 47 = .ok (.ifCond .ge 19, 3) := by decide +kernel
theorem dX1_reach_50 : decode cX1_reach 50 = .ok (.iload 7, 2) := by decide +kernel
theorem dX1_reach_52 : decode cX1_reach 52 = .ok (.bipush (-100), 2) := by decide +kernel
theorem dX1_reach_54 : decode cX1_reach 54 = .ok (.if_icmp .eq 9, 3) := by decide +kernel
theorem dX1_reach_57 : decode cX1_reach 57 = .ok (.aload_n 0, 1) := by decide +kernel
theorem dX1_reach_58 : decode cX1_reach 58 = .ok (.iload 6, 2) := by decide +kernel
theorem dX1_reach_60 : decode cX1_reach 60 = .ok (.putfield 37, 3) := by decide +kernel
theorem dX1_reach_63 : decode cX1_reach 63 = .ok (.iload 7, 2) := by decide +kernel
theorem dX1_reach_65 : decode cX1_reach 65 = .ok (.ireturn, 1) := by decide +kernel
theorem dX1_reach_66 : decode cX1_reach 66 = .ok (.aload_n 0, 1) := by decide +kernel
theorem dX1_reach_67 : decode cX1_reach 67 = .ok (.getfield 34, 3) := by decide +kernel
theorem dX1_reach_70 : decode cX1_reach 70 = .ok (.iload 5, 2) := by decide +kernel
theorem dX1_reach_72 : decode cX1_reach 72 = .ok (.iload 7, 2) := by decide +kernel
theorem dX1_reach_74 : decode cX1_reach 74 = .ok (.iastore, 1) := by decide +kernel
theorem dX1_reach_75 : decode cX1_reach 75 = .ok (.goto 21, 3) := by decide +kernel
theorem dX1_reach_78 : decode cX1_reach 78 = .ok (.aload_n 0, 1) := by decide +kernel
theorem dX1_reach_79 : decode cX1_reach 79 = .ok (.getfield 34, 3) := by decide +kernel
theorem dX1_reach_82 : decode cX1_reach 82 = .ok (.iload 5, 2) := by decide +kernel
theorem dX1_reach_84 : decode cX1_reach 84 = .ok (.aload_n 0, 1) := by decide +kernel
theorem dX1_reach_85 : decode cX1_reach 85 = .ok (.getfield 34, 3) := by decide +kernel
theorem dX1_reach_88 : decode cX1_reach 88 = .ok (.iload 5, 2) := by decide +kernel
theorem dX1_reach_90 : decode cX1_reach 90 = .ok (.iconst 1, 1) := by decide +kernel
theorem dX1_reach_91 : decode cX1_reach 91 = .ok (.isub, 1) := by decide +kernel
theorem dX1_reach_92 : decode cX1_reach 92 = .ok (.iaload, 1) := by decide +kernel
theorem dX1_reach_93 : decode cX1_reach 93 = .ok (.iconst 1, 1) := by decide +kernel
theorem dX1_reach_94 : decode cX1_reach 94 = .ok (.iadd, 1) := by decide +kernel
theorem dX1_reach_95 : decode cX1_reach 95 = .ok (.iastore, 1) := by decide +kernel
theorem dX1_reach_96 : decode cX1_reach 96 = .ok (.iinc 5 1, 3) := by decide +kernel
theorem dX1_reach_99 : decode cX1_reach 99 = .ok (.goto (-96), 3) := by decide +kernel
theorem dX1_reach_102 : decode cX1_reach 102 = .ok (.iconst 0, 1) := by decide +kernel
theorem dX1_reach_103 : decode cX1_reach 103 = .ok (.istore 5, 2) := by decide +kernel
theorem dX1_reach_105 : decode cX1_reach 105 = .ok (.iload 5, 2) := by decide +kernel
theorem dX1_reach_107 : decode cX1_reach 107 = .ok (.iload_n 2, 1) := by decide +kernel
theorem dX1_reach_108 : decode cX1_reach 108 = .ok (.if_icmp .ge 26, 3) := by decide +kernel
theorem dX1_reach_111 : decode cX1_reach 111 = .ok (.aload_n 0, 1) := by decide +kernel
theorem dX1_reach_112 : decode cX1_reach 112 = .ok (.aload_n 0, 1) := by decide +kernel
theorem dX1_reach_113 : decode cX1_reach 113 = .ok (.getfield 34, 3) := by decide +kernel
theorem dX1_reach_116 : decode cX1_reach 116 = .ok (.iload 5, 2) := by decide +kernel
theorem dX1_reach_118 : decode cX1_reach 118 = .ok (.iaload, 1) := by decide +kernel
theorem dX1_reach_119 : decode cX1_reach 119 = .ok (.invokevirtual 48, 3) := by decide +kernel
theorem dX1_reach_122 : decode cX1_reach 122 = .ok (.ifCond .ne 6, 3) := by decide +kernel
theorem dX1_reach_125 : decode cX1_reach 125 = .ok (.bipush (-100), 2) := by decide +kernel
theorem dX1_reach_127 : decode cX1_reach 127 = .ok (.ireturn, 1) := by decide +kernel
theorem dX1_reach_128 : decode cX1_reach 128 = .ok (.iinc 5 1, 3) := by decide +kernel
theorem dX1_reach_131 : decode cX1_reach 131 = .ok (.goto (-26), 3) := by decide +kernel
theorem dX1_reach_134 : decode cX1_reach 134 = .ok (.iconst 0, 1) := by decide +kernel
theorem dX1_reach_135 : decode cX1_reach 135 = .ok (.ireturn, 1) := by decide +kernel
theorem dX1_isSize_0 : decode cX1_isSize 0 = .ok (.iload_n 0, 1) := by decide +kernel
theorem dX1_isSize_1 : decode cX1_isSize 1 = .ok (.iconst 1, 1) := by decide +kernel
theorem dX1_isSize_2 : decode cX1_isSize 2 = .ok (.if_icmp .eq 13, 3) := by decide +kernel
theorem dX1_isSize_5 : decode cX1_isSize 5 = .ok (.iload_n 0, 1) := by decide +kernel
theorem dX1_isSize_6 : decode cX1_isSize 6 = .ok (.iconst 2, 1) := by decide +kernel
theorem dX1_isSize_7 : decode cX1_isSize 7 = .ok (.if_icmp .eq 8, 3) := by decide +kernel
theorem dX1_isSize_10 : decode cX1_isSize 10 = .ok (.iload_n 0, 1) := by decide +kernel
theorem dX1_isSize_11 : decode cX1_isSize 11 = .ok (.iconst 4, 1) := by decide +kernel
theorem dX1_isSize_12 : decode cX1_isSize 12 = .ok (.if_icmp .ne 7, 3) := by decide +kernel
theorem dX1_isSize_15 : decode cX1_isSize 15 = .ok (.iconst 1, 1) := by decide +kernel
theorem dX1_isSize_16 : decode cX1_isSize 16 = .ok (.goto 4, 3) := by decide +kernel
theorem dX1_isSize_19 : decode cX1_isSize 19 = .ok (.iconst 0, 1) := by decide +kernel
theorem dX1_isSize_20 : decode cX1_isSize 20 = .ok (.ireturn, 1) := by decide +kernel
theorem dX1_read_0 : decode cX1_read 0 = .ok (.iload_n 2, 1) := by decide +kernel
theorem dX1_read_1 : decode cX1_read 1 = .ok (.invokestatic 113, 3) := by decide +kernel
theorem dX1_read_4 : decode cX1_read 4 = .ok (.ifCond .ne 7, 3) := by decide +kernel
theorem dX1_read_7 : decode cX1_read 7 = .ok (.ldc2_w 116, 3) := by decide +kernel
theorem dX1_read_10 : decode cX1_read 10 = .ok (.lreturn, 1) := by decide +kernel
theorem dX1_read_11 : decode cX1_read 11 = .ok (.aload_n 0, 1) := by decide +kernel
theorem dX1_read_12 : decode cX1_read 12 = .ok (.iload_n 1, 1) := by decide +kernel
theorem dX1_read_13 : decode cX1_read 13 = .ok (.ldc 67, 2) := by decide +kernel
theorem dX1_read_15 : decode cX1_read 15 = .ok (.iand, 1) := by decide +kernel
theorem dX1_read_16 : decode cX1_read 16 = .ok (.iload_n 2, 1) := by decide +kernel
theorem dX1_read_17 : decode cX1_read 17 = .ok (.iload_n 3, 1) := by decide +kernel
theorem dX1_read_18 : decode cX1_read 18 = .ok (.iconst 0, 1) := by decide +kernel
theorem dX1_read_19 : decode cX1_read 19 = .ok (.invokevirtual 118, 3) := by decide +kernel
theorem dX1_read_22 : decode cX1_read 22 = .ok (.istore 4, 2) := by decide +kernel
theorem dX1_read_24 : decode cX1_read 24 = .ok (.iload 4, 2) := by decide +kernel
theorem dX1_read_26 : decode cX1_read 26 = .ok (.ifCond .ge 7, 3) := by decide +kernel
theorem dX1_read_29 : decode cX1_read 29 = .ok (.iload 4, 2) := by decide +kernel
theorem dX1_read_31 : decode cX1_read 31 = .ok (.i2l, 1) := by decide +kernel
theorem dX1_read_32 : decode cX1_read 32 = .ok (.lreturn, 1) := by decide +kernel
theorem dX1_read_33 : decode cX1_read 33 = .ok (.lconst 0, 1) := by decide +kernel
theorem dX1_read_34 : decode cX1_read 34 = .ok (.lstore 5, 2) := by decide +kernel
theorem dX1_read_36 : decode cX1_read 36 = .ok (.iload_n 2, 1) := by decide +kernel
theorem dX1_read_37 : decode cX1_read 37 = .ok (.iconst 1, 1) := by decide +kernel
theorem dX1_read_38 : decode cX1_read 38 = .ok (.isub, 1) := by decide +kernel
theorem dX1_read_39 : decode cX1_read 39 = .ok (.istore 7, 2) := by decide +kernel
theorem dX1_read_41 : decode cX1_read 41 = .ok (.iload 7, 2) := by decide +kernel
theorem dX1_read_43 : decode cX1_read 43 = .ok (.ifCond .lt 31, 3) := by decide +kernel
theorem dX1_read_46 : decode cX1_read 46 = .ok (.lload 5, 2) := by decide +kernel
theorem dX1_read_48 : decode cX1_read 48 = .ok (.ldc2_w 122, 3) := by decide +kernel
theorem dX1_read_51 : decode cX1_read 51 = .ok (.lmul, 1) := by decide +kernel
theorem dX1_read_52 : decode cX1_read 52 = .ok (.aload_n 0, 1) := by decide +kernel
theorem dX1_read_53 : decode cX1_read 53 = .ok (.getfield 7, 3) := by decide +kernel
theorem dX1_read_56 : decode cX1_read 56 = .ok (.aload_n 0, 1) := by decide +kernel
theorem dX1_read_57 : decode cX1_read 57 = .ok (.getfield 34, 3) := by decide +kernel
theorem dX1_read_60 : decode cX1_read 60 = .ok (.iload 7, 2) := by decide +kernel
theorem dX1_read_62 : decode cX1_read 62 = .ok (.iaload, 1) := by decide +kernel
theorem dX1_read_63 : decode cX1_read 63 = .ok (.iaload, 1) := by decide +kernel
theorem dX1_read_64 : decode cX1_read 64 = .ok (.i2l, 1) := by decide +kernel
theorem dX1_read_65 : decode cX1_read 65 = .ok (.ladd, 1) := by decide +kernel
theorem dX1_read_66 : decode cX1_read 66 = .ok (.lstore 5, 2) := by decide +kernel
theorem dX1_read_68 : decode cX1_read 68 = .ok (.iinc 7 (-1), 3) := by decide +kernel
theorem dX1_read_71 : decode cX1_read 71 = .ok (.goto (-30), 3) := by decide +kernel
theorem dX1_read_74 : decode cX1_read 74 = .ok (.lload 5, 2) := by decide +kernel
theorem dX1_read_76 : decode cX1_read 76 = .ok (.lreturn, 1) := by decide +kernel
theorem dX1_write_0 : decode cX1_write 0 = .ok (.iload_n 2, 1) := by decide +kernel
theorem dX1_write_1 : decode cX1_write 1 = .ok (.invokestatic 113, 3) := by decide +kernel
theorem dX1_write_4 : decode cX1_write 4 = .ok (.ifCond .ne 6, 3) := by decide +kernel
theorem dX1_write_7 : decode cX1_write 7 = .ok (.bipush (-101), 2) := by decide +kernel
theorem dX1_write_9 : decode cX1_write 9 = .ok (.ireturn, 1) := by decide +kernel
theorem dX1_write_10 : decode cX1_write 10 = .ok (.aload_n 0, 1) := by decide +kernel
theorem dX1_write_11 : decode cX1_write 11 = .ok (.iload_n 1, 1) := by decide +kernel
theorem dX1_write_12 : decode cX1_write 12 = .ok (.ldc 67, 2) := by decide +kernel
theorem dX1_write_14 : decode cX1_write 14 = .ok (.iand, 1) := by decide +kernel
theorem dX1_write_15 : decode cX1_write 15 = .ok (.iload_n 2, 1) := by decide +kernel
theorem dX1_write_16 : decode cX1_write 16 = .ok (.iload 4, 2) := by decide +kernel
theorem dX1_write_18 : decode cX1_write 18 = .ok (.iconst 1, 1) := by decide +kernel
theorem dX1_write_19 : decode cX1_write 19 = .ok (.invokevirtual 118, 3) := by decide +kernel
theorem dX1_write_22 : decode cX1_write 22 = .ok (.istore 5, 2) := by decide +kernel
theorem dX1_write_24 : decode cX1_write 24 = .ok (.iload 5, 2) := by decide +kernel
theorem dX1_write_26 : decode cX1_write 26 = .ok (.ifCond .ge 6, 3) := by decide +kernel
theorem dX1_write_29 : decode cX1_write 29 = .ok (.iload 5, 2) := by decide +kernel
theorem dX1_write_31 : decode cX1_write 31 = .ok (.ireturn, 1) := by decide +kernel
theorem dX1_write_32 : decode cX1_write 32 = .ok (.iconst 0, 1) := by decide +kernel
theorem dX1_write_33 : decode cX1_write 33 = .ok (.istore 6, 2) := by decide +kernel
theorem dX1_write_35 : decode cX1_write 35 = .ok (.iload 6, 2) := by decide +kernel
theorem dX1_write_37 : decode cX1_write 37 = .ok (.iload_n 2, 1) := by decide +kernel
theorem dX1_write_38 : decode cX1_write 38 = .ok (.if_icmp .ge 32, 3) := by decide +kernel
theorem dX1_write_41 : decode cX1_write 41 = .ok (.aload_n 0, 1) := by decide +kernel
theorem dX1_write_42 : decode cX1_write 42 = .ok (.getfield 7, 3) := by decide +kernel
theorem dX1_write_45 : decode cX1_write 45 = .ok (.aload_n 0, 1) := by decide +kernel
theorem dX1_write_46 : decode cX1_write 46 = .ok (.getfield 34, 3) := by decide +kernel
theorem dX1_write_49 : decode cX1_write 49 = .ok (.iload 6, 2) := by decide +kernel
theorem dX1_write_51 : decode cX1_write 51 = .ok (.iaload, 1) := by decide +kernel
theorem dX1_write_52 : decode cX1_write 52 = .ok (.iload_n 3, 1) := by decide +kernel
theorem dX1_write_53 : decode cX1_write 53 = .ok (.bipush 8, 2) := by decide +kernel
theorem dX1_write_55 : decode cX1_write 55 = .ok (.iload 6, 2) := by decide +kernel
theorem dX1_write_57 : decode cX1_write 57 = .ok (.imul, 1) := by decide +kernel
theorem dX1_write_58 : decode cX1_write 58 = .ok (.ishr, 1) := by decide +kernel
theorem dX1_write_59 : decode cX1_write 59 = .ok (.sipush 255, 3) := by decide +kernel
theorem dX1_write_62 : decode cX1_write 62 = .ok (.iand, 1) := by decide +kernel
theorem dX1_write_63 : decode cX1_write 63 = .ok (.iastore, 1) := by decide +kernel
theorem dX1_write_64 : decode cX1_write 64 = .ok (.iinc 6 1, 3) := by decide +kernel
theorem dX1_write_67 : decode cX1_write 67 = .ok (.goto (-32), 3) := by decide +kernel
theorem dX1_write_70 : decode cX1_write 70 = .ok (.iconst 0, 1) := by decide +kernel
theorem dX1_write_71 : decode cX1_write 71 = .ok (.ireturn, 1) := by decide +kernel
theorem dX1_where_0 : decode cX1_where 0 = .ok (.aload_n 0, 1) := by decide +kernel
theorem dX1_where_1 : decode cX1_where 1 = .ok (.iload_n 1, 1) := by decide +kernel
theorem dX1_where_2 : decode cX1_where 2 = .ok (.ldc 67, 2) := by decide +kernel
theorem dX1_where_4 : decode cX1_where 4 = .ok (.iand, 1) := by decide +kernel
theorem dX1_where_5 : decode cX1_where 5 = .ok (.iload_n 2, 1) := by decide +kernel
theorem dX1_where_6 : decode cX1_where 6 = .ok (.iconst 3, 1) := by decide +kernel
theorem dX1_where_7 : decode cX1_where 7 = .ok (.iand, 1) := by decide +kernel
theorem dX1_where_8 : decode cX1_where 8 = .ok (.iload_n 3, 1) := by decide +kernel
theorem dX1_where_9 : decode cX1_where 9 = .ok (.iconst 0, 1) := by decide +kernel
theorem dX1_where_10 : decode cX1_where 10 = .ok (.invokevirtual 109, 3) := by decide +kernel
theorem dX1_where_13 : decode cX1_where 13 = .ok (.istore 4, 2) := by decide +kernel
theorem dX1_where_15 : decode cX1_where 15 = .ok (.iload 4, 2) := by decide +kernel
theorem dX1_where_17 : decode cX1_where 17 = .ok (.ifCond .lt 17, 3) := by decide +kernel
theorem dX1_where_20 : decode cX1_where 20 = .ok (.aload_n 0, 1) := by decide +kernel
theorem dX1_where_21 : decode cX1_where 21 = .ok (.iload 4, 2) := by decide +kernel
theorem dX1_where_23 : decode cX1_where 23 = .ok (.invokevirtual 48, 3) := by decide +kernel
theorem dX1_where_26 : decode cX1_where 26 = .ok (.ifCond .ne 8, 3) := by decide +kernel
theorem dX1_where_29 : decode cX1_where 29 = .ok (.bipush (-100), 2) := by decide +kernel
theorem dX1_where_31 : decode cX1_where 31 = .ok (.goto 5, 3) := by decide +kernel
theorem dX1_where_34 : decode cX1_where 34 = .ok (.iload 4, 2) := by decide +kernel
theorem dX1_where_36 : decode cX1_where 36 = .ok (.ireturn, 1) := by decide +kernel
theorem dX1_may_0 : decode cX1_may 0 = .ok (.aload_n 0, 1) := by decide +kernel
theorem dX1_may_1 : decode cX1_may 1 = .ok (.getfield 71, 3) := by decide +kernel
theorem dX1_may_4 : decode cX1_may 4 = .ok (.ifCond .ne 5, 3) := by decide +kernel
theorem dX1_may_7 : decode cX1_may 7 = .ok (.iconst 1, 1) := by decide +kernel
theorem dX1_may_8 : decode cX1_may 8 = .ok (.ireturn, 1) := by decide +kernel
theorem dX1_may_9 : decode cX1_may 9 = .ok (.aload_n 0, 1) := by decide +kernel
theorem dX1_may_10 : decode cX1_may 10 = .ok (.iload_n 1, 1) := by decide +kernel
theorem dX1_may_11 : decode cX1_may 11 = .ok (.ldc 67, 2) := by decide +kernel
theorem dX1_may_13 : decode cX1_may 13 = .ok (.iand, 1) := by decide +kernel
theorem dX1_may_14 : decode cX1_may 14 = .ok (.iconst 0, 1) := by decide +kernel
theorem dX1_may_15 : decode cX1_may 15 = .ok (.invokevirtual 100, 3) := by decide +kernel
theorem dX1_may_18 : decode cX1_may 18 = .ok (.istore 4, 2) := by decide +kernel
theorem dX1_may_20 : decode cX1_may 20 = .ok (.iload 4, 2) := by decide +kernel
theorem dX1_may_22 : decode cX1_may 22 = .ok (.bipush (-100), 2) := by decide +kernel
theorem dX1_may_24 : decode cX1_may 24 = .ok (.if_icmp .ne 6, 3) := by decide +kernel
theorem dX1_may_27 : decode cX1_may 27 = .ok (.bipush (-100), 2) := by decide +kernel
theorem dX1_may_29 : decode cX1_may 29 = .ok (.ireturn, 1) := by decide +kernel
theorem dX1_may_30 : decode cX1_may 30 = .ok (.iload 4, 2) := by decide +kernel
theorem dX1_may_32 : decode cX1_may 32 = .ok (.bipush (-13), 2) := by decide +kernel
theorem dX1_may_34 : decode cX1_may 34 = .ok (.if_icmp .ne 17, 3) := by decide +kernel
theorem dX1_may_37 : decode cX1_may 37 = .ok (.iload_n 3, 1) := by decide +kernel
theorem dX1_may_38 : decode cX1_may 38 = .ok (.ifCond .eq 10, 3) := by decide +kernel
theorem dX1_may_41 : decode cX1_may 41 = .ok (.iload 4, 2) := by decide +kernel
theorem dX1_may_43 : decode cX1_may 43 = .ok (.iconst 4, 1) := by decide +kernel
theorem dX1_may_44 : decode cX1_may 44 = .ok (.isub, 1) := by decide +kernel
theorem dX1_may_45 : decode cX1_may 45 = .ok (.goto 5, 3) := by decide +kernel
theorem dX1_may_48 : decode cX1_may 48 = .ok (.iload 4, 2) := by decide +kernel
theorem dX1_may_50 : decode cX1_may 50 = .ok (.ireturn, 1) := by decide +kernel
theorem dX1_may_51 : decode cX1_may 51 = .ok (.iload 4, 2) := by decide +kernel
theorem dX1_may_53 : decode cX1_may 53 = .ok (.ifCond .ne 18, 3) := by decide +kernel
theorem dX1_may_56 : decode cX1_may 56 = .ok (.aload_n 0, 1) := by decide +kernel
theorem dX1_may_57 : decode cX1_may 57 = .ok (.iload_n 2, 1) := by decide +kernel
theorem dX1_may_58 : decode cX1_may 58 = .ok (.iconst 3, 1) := by decide +kernel
theorem dX1_may_59 : decode cX1_may 59 = .ok (.iand, 1) := by decide +kernel
theorem dX1_may_60 : decode cX1_may 60 = .ok (.iload_n 3, 1) := by decide +kernel
theorem dX1_may_61 : decode cX1_may 61 = .ok (.invokevirtual 104, 3) := by decide +kernel
theorem dX1_may_64 : decode cX1_may 64 = .ok (.ifCond .eq 7, 3) := by decide +kernel
theorem dX1_may_67 : decode cX1_may 67 = .ok (.iconst 1, 1) := by decide +kernel
theorem dX1_may_68 : decode cX1_may 68 = .ok (.goto 4, 3) := by decide +kernel
theorem dX1_may_71 : decode cX1_may 71 = .ok (.iconst 0, 1) := by decide +kernel
theorem dX1_may_72 : decode cX1_may 72 = .ok (.ireturn, 1) := by decide +kernel
theorem dX1_kept_0 : decode cX1_kept 0 = .ok (.iload_n 1, 1) := by decide +kernel
theorem dX1_kept_1 : decode cX1_kept 1 = .ok (.ifCond .lt 18, 3) := by decide +kernel
theorem dX1_kept_4 : decode cX1_kept 4 = .ok (.iload_n 1, 1) := by decide +kernel
theorem dX1_kept_5 : decode cX1_kept 5 = .ok (.bipush 16, 2) := by decide +kernel
theorem dX1_kept_7 : decode cX1_kept 7 = .ok (.if_icmp .ge 12, 3) := by decide +kernel
theorem dX1_kept_10 : decode cX1_kept 10 = .ok (.iload_n 2, 1) := by decide +kernel
theorem dX1_kept_11 : decode cX1_kept 11 = .ok (.ifCond .lt 8, 3) := by decide +kernel
theorem dX1_kept_14 : decode cX1_kept 14 = .ok (.iload_n 2, 1) := by decide +kernel
theorem dX1_kept_15 : decode cX1_kept 15 = .ok (.iconst 2, 1) := by decide +kernel
theorem dX1_kept_16 : decode cX1_kept 16 = .ok (.if_icmp .le 7, 3) := by decide +kernel
theorem dX1_kept_19 : decode cX1_kept 19 = .ok (.ldc2_w 65, 3) := by decide +kernel
theorem dX1_kept_22 : decode cX1_kept 22 = .ok (.lreturn, 1) := by decide +kernel
theorem dX1_kept_23 : decode cX1_kept 23 = .ok (.aload_n 0, 1) := by decide +kernel
theorem dX1_kept_24 : decode cX1_kept 24 = .ok (.getfield 19, 3) := by decide +kernel
theorem dX1_kept_27 : decode cX1_kept 27 = .ok (.iload_n 1, 1) := by decide +kernel
theorem dX1_kept_28 : decode cX1_kept 28 = .ok (.iaload, 1) := by decide +kernel
theorem dX1_kept_29 : decode cX1_kept 29 = .ok (.ifCond .lt 7, 3) := by decide +kernel
theorem dX1_kept_32 : decode cX1_kept 32 = .ok (.iconst 1, 1) := by decide +kernel
theorem dX1_kept_33 : decode cX1_kept 33 = .ok (.goto 4, 3) := by decide +kernel
theorem dX1_kept_36 : decode cX1_kept 36 = .ok (.iconst 0, 1) := by decide +kernel
theorem dX1_kept_37 : decode cX1_kept 37 = .ok (.istore_n 3, 1) := by decide +kernel
theorem dX1_kept_38 : decode cX1_kept 38 = .ok (.iload_n 2, 1) := by decide +kernel
theorem dX1_kept_39 : decode cX1_kept 39 = .ok (.ifCond .ne 13, 3) := by decide +kernel
theorem dX1_kept_42 : decode cX1_kept 42 = .ok (.iload_n 3, 1) := by decide +kernel
theorem dX1_kept_43 : decode cX1_kept 43 = .ok (.ifCond .eq 7, 3) := by decide +kernel
theorem dX1_kept_46 : decode cX1_kept 46 = .ok (.lconst 1, 1) := by decide +kernel
theorem dX1_kept_47 : decode cX1_kept 47 = .ok (.goto 4, 3) := by decide +kernel
theorem dX1_kept_50 : decode cX1_kept 50 = .ok (.lconst 0, 1) := by decide +kernel
theorem dX1_kept_51 : decode cX1_kept 51 = .ok (.lreturn, 1) := by decide +kernel
theorem dX1_kept_52 : decode cX1_kept 52 = .ok (.iload_n 3, 1) := by decide +kernel
theorem dX1_kept_53 : decode cX1_kept 53 = .ok (.ifCond .ne 7, 3) := by decide +kernel
theorem dX1_kept_56 : decode cX1_kept 56 = .ok (.ldc2_w 65, 3) := by decide +kernel
theorem dX1_kept_59 : decode cX1_kept 59 = .ok (.lreturn, 1) := by decide +kernel
theorem dX1_kept_60 : decode cX1_kept 60 = .ok (.iload_n 2, 1) := by decide +kernel
theorem dX1_kept_61 : decode cX1_kept 61 = .ok (.iconst 1, 1) := by decide +kernel
theorem dX1_kept_62 : decode cX1_kept 62 = .ok (.if_icmp .ne 13, 3) := by decide +kernel
theorem dX1_kept_65 : decode cX1_kept 65 = .ok (.aload_n 0, 1) := by decide +kernel
theorem dX1_kept_66 : decode cX1_kept 66 = .ok (.getfield 19, 3) := by decide +kernel
theorem dX1_kept_69 : decode cX1_kept 69 = .ok (.iload_n 1, 1) := by decide +kernel
theorem dX1_kept_70 : decode cX1_kept 70 = .ok (.iaload, 1) := by decide +kernel
theorem dX1_kept_71 : decode cX1_kept 71 = .ok (.i2l, 1) := by decide +kernel
theorem dX1_kept_72 : decode cX1_kept 72 = .ok (.goto 14, 3) := by decide +kernel
theorem dX1_kept_75 : decode cX1_kept 75 = .ok (.aload_n 0, 1) := by decide +kernel
theorem dX1_kept_76 : decode cX1_kept 76 = .ok (.getfield 22, 3) := by decide +kernel
theorem dX1_kept_79 : decode cX1_kept 79 = .ok (.iload_n 1, 1) := by decide +kernel
theorem dX1_kept_80 : decode cX1_kept 80 = .ok (.iaload, 1) := by decide +kernel
theorem dX1_kept_81 : decode cX1_kept 81 = .ok (.i2l, 1) := by decide +kernel
theorem dX1_kept_82 : decode cX1_kept 82 = .ok (.ldc2_w 63, 3) := by decide +kernel
theorem dX1_kept_85 : decode cX1_kept 85 = .ok (.land, 1) := by decide +kernel
theorem dX1_kept_86 : decode cX1_kept 86 = .ok (.lreturn, 1) := by decide +kernel
theorem dX1_failed_0 : decode cX1_failed 0 = .ok (.aload_n 0, 1) := by decide +kernel
theorem dX1_failed_1 : decode cX1_failed 1 = .ok (.getfield 37, 3) := by decide +kernel
theorem dX1_failed_4 : decode cX1_failed 4 = .ok (.ireturn, 1) := by decide +kernel
