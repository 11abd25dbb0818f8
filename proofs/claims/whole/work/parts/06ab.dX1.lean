theorem dX1_slot_4 : decode cX1_slot 4 = .ok (.iconst 2, 1) := by decide +kernel
theorem dX1_slot_5 : decode cX1_slot 5 = .ok (.if_icmp .ne 8, 3) := by decide +kernel
theorem dX1_slot_8 : decode cX1_slot 8 = .ok (.bipush 8, 2) := by decide +kernel
theorem dX1_slot_10 : decode cX1_slot 10 = .ok (.goto 4, 3) := by decide +kernel
theorem dX1_slot_13 : decode cX1_slot 13 = .ok (.iconst 0, 1) := by decide +kernel
theorem dX1_slot_14 : decode cX1_slot 14 = .ok (.iload_n 0, 1) := by decide +kernel
theorem dX1_slot_15 : decode cX1_slot 15 = .ok (.invokestatic 78, 3) := by decide +kernel
theorem dX1_slot_18 : decode cX1_slot 18 = .ok (.bipush 8, 2) := by decide +kernel
theorem dX1_slot_20 : decode cX1_slot 20 = .ok (.irem, 1) := by decide +kernel
theorem dX1_slot_21 : decode cX1_slot 21 = .ok (.iadd, 1) := by decide +kernel
theorem dX1_slot_22 : decode cX1_slot 22 = .ok (.ireturn, 1) := by decide +kernel
theorem dX1_isKept_0 : decode cX1_isKept 0 = .ok (.aload_n 0, 1) := by decide +kernel
theorem dX1_isKept_1 : decode cX1_isKept 1 = .ok (.getfield 19, 3) := by decide +kernel
theorem dX1_isKept_4 : decode cX1_isKept 4 = .ok (.iload_n 1, 1) := by decide +kernel
theorem dX1_isKept_5 : decode cX1_isKept 5 = .ok (.invokestatic 81, 3) := by decide +kernel
theorem dX1_isKept_8 : decode cX1_isKept 8 = .ok (.iaload, 1) := by decide +kernel
theorem dX1_isKept_9 : decode cX1_isKept 9 = .ok (.iload_n 1, 1) := by decide +kernel
theorem dX1_isKept_10 : decode cX1_isKept 10 = .ok (.ldc 84, 2) := by decide +kernel
theorem dX1_isKept_12 : decode cX1_isKept 12 = .ok (.iand, 1) := by decide +kernel
theorem dX1_isKept_13 : decode cX1_isKept 13 = .ok (.if_icmp .ne 7, 3) := by decide +kernel
theorem dX1_isKept_16 : decode cX1_isKept 16 = .ok (.iconst 1, 1) := by decide +kernel
theorem dX1_isKept_17 : decode cX1_isKept 17 = .ok (.goto 4, 3) := by decide +kernel
theorem dX1_isKept_20 : decode cX1_isKept 20 = .ok (.iconst 0, 1) := by decide +kernel
theorem dX1_isKept_21 : decode cX1_isKept 21 = .ok (.ireturn, 1) := by decide +kernel
theorem dX1_keeps_0 : decode cX1_keeps 0 = .ok (.aload_n 0, 1) := by decide +kernel
theorem dX1_keeps_1 : decode cX1_keeps 1 = .ok (.getfield 19, 3) := by decide +kernel
theorem dX1_keeps_4 : decode cX1_keeps 4 = .ok (.iload_n 1, 1) := by decide +kernel
theorem dX1_keeps_5 : decode cX1_keeps 5 = .ok (.invokestatic 81, 3) := by decide +kernel
theorem dX1_keeps_8 : decode cX1_keeps 8 = .ok (.iload_n 1, 1) := by decide +kernel
theorem dX1_keeps_9 : decode cX1_keeps 9 = .ok (.ldc 84, 2) := by decide +kernel
theorem dX1_keeps_11 : decode cX1_keeps 11 = .ok (.iand, 1) := by decide +kernel
theorem dX1_keeps_12 : decode cX1_keeps 12 = .ok (.iastore, 1) := by decide +kernel
theorem dX1_keeps_13 : decode cX1_keeps 13 = .ok (.aload_n 0, 1) := by decide +kernel
theorem dX1_keeps_14 : decode cX1_keeps 14 = .ok (.getfield 22, 3) := by decide +kernel
theorem dX1_keeps_17 : decode cX1_keeps 17 = .ok (.iload_n 1, 1) := by decide +kernel
theorem dX1_keeps_18 : decode cX1_keeps 18 = .ok (.invokestatic 81, 3) := by decide +kernel
theorem dX1_keeps_21 : decode cX1_keeps 21 = .ok (.iload_n 2, 1) := by decide +kernel
theorem dX1_keeps_22 : decode cX1_keeps 22 = .ok (.iastore, 1) := by decide +kernel
theorem dX1_keeps_23 : decode cX1_keeps 23 = .ok (.aload_n 0, 1) := by decide +kernel
theorem dX1_keeps_24 : decode cX1_keeps 24 = .ok (.getfield 25, 3) := by decide +kernel
theorem dX1_keeps_27 : decode cX1_keeps 27 = .ok (.iload_n 1, 1) := by decide +kernel
theorem dX1_keeps_28 : decode cX1_keeps 28 = .ok (.invokestatic 81, 3) := by decide +kernel
theorem dX1_keeps_31 : decode cX1_keeps 31 = .ok (.iload_n 3, 1) := by decide +kernel
theorem dX1_keeps_32 : decode cX1_keeps 32 = .ok (.iastore, 1) := by decide +kernel
theorem dX1_keeps_33 : decode cX1_keeps 33 = .ok (.return_, 1) := by decide +kernel
theorem dX1_isInside_0 : decode cX1_isInside 0 = .ok (.iload_n 1, 1) := by decide +kernel
theorem dX1_isInside_1 : decode cX1_isInside 1 = .ok (.invokestatic 75, 3) := by decide +kernel
theorem dX1_isInside_4 : decode cX1_isInside 4 = .ok (.istore_n 2, 1) := by decide +kernel
theorem dX1_isInside_5 : decode cX1_isInside 5 = .ok (.iload_n 2, 1) := by decide +kernel
theorem dX1_isInside_6 : decode cX1_isInside 6 = .ok (.iconst 1, 1) := by decide +kernel
theorem dX1_isInside_7 : decode cX1_isInside 7 = .ok (.if_icmp .ne 22, 3) := by decide +kernel
theorem dX1_isInside_10 : decode cX1_isInside 10 = .ok (.iload_n 1, 1) := by decide +kernel
theorem dX1_isInside_11 : decode cX1_isInside 11 = .ok (.invokestatic 78, 3) := by decide +kernel
theorem dX1_isInside_14 : decode cX1_isInside 14 = .ok (.aload_n 0, 1) := by decide +kernel
theorem dX1_isInside_15 : decode cX1_isInside 15 = .ok (.getfield 16, 3) := by decide +kernel
theorem dX1_isInside_18 : decode cX1_isInside 18 = .ok (.iconst 1, 1) := by decide +kernel
theorem dX1_isInside_19 : decode cX1_isInside 19 = .ok (.iaload, 1) := by decide +kernel
theorem dX1_isInside_20 : decode cX1_isInside 20 = .ok (.if_icmp .lt 7, 3) := by decide +kernel
theorem dX1_isInside_23 : decode cX1_isInside 23 = .ok (.iconst 1, 1) := by decide +kernel
theorem dX1_isInside_24 : decode cX1_isInside 24 = .ok (.goto 4, 3) := by decide +kernel
theorem dX1_isInside_27 : decode cX1_isInside 27 = .ok (.iconst 0, 1) := by decide +kernel
theorem dX1_isInside_28 : decode cX1_isInside 28 = .ok (.ireturn, 1) := by decide +kernel
theorem dX1_isInside_29 : decode cX1_isInside 29 = .ok (.iload_n 2, 1) := by decide +kernel
theorem dX1_isInside_30 : decode cX1_isInside 30 = .ok (.iconst 3, 1) := by decide +kernel
theorem dX1_isInside_31 : decode cX1_isInside 31 = .ok (.if_icmp .eq 20, 3) := by decide +kernel
theorem dX1_isInside_34 : decode cX1_isInside 34 = .ok (.iload_n 1, 1) := by decide +kernel
theorem dX1_isInside_35 : decode cX1_isInside 35 = .ok (.invokestatic 78, 3) := by decide +kernel
theorem dX1_isInside_38 : decode cX1_isInside 38 = .ok (.aload_n 0, 1) := by decide +kernel
theorem dX1_isInside_39 : decode cX1_isInside 39 = .ok (.getfield 16, 3) := by decide +kernel
theorem dX1_isInside_42 : decode cX1_isInside 42 = .ok (.iload_n 2, 1) := by decide +kernel
theorem dX1_isInside_43 : decode cX1_isInside 43 = .ok (.iaload, 1) := by decide +kernel
theorem dX1_isInside_44 : decode cX1_isInside 44 = .ok (.if_icmp .ge 7, 3) := by decide +kernel
theorem dX1_isInside_47 : decode cX1_isInside 47 = .ok (.iconst 1, 1) := by decide +kernel
theorem dX1_isInside_48 : decode cX1_isInside 48 = .ok (.goto 4, 3) := by decide +kernel
theorem dX1_isInside_51 : decode cX1_isInside 51 = .ok (.iconst 0, 1) := by decide +kernel
theorem dX1_isInside_52 : decode cX1_isInside 52 = .ok (.ireturn, 1) := by decide +kernel
theorem dX1_drop_0 : decode cX1_drop 0 = .ok (.iload_n 1, 1) := by decide +kernel
theorem dX1_drop_1 : decode cX1_drop 1 = .ok (.ldc 67, 2) := by decide +kernel
theorem dX1_drop_3 : decode cX1_drop 3 = .ok (.iand, 1) := by decide +kernel
theorem dX1_drop_4 : decode cX1_drop 4 = .ok (.istore_n 2, 1) := by decide +kernel
theorem dX1_drop_5 : decode cX1_drop 5 = .ok (.aload_n 0, 1) := by decide +kernel
theorem dX1_drop_6 : decode cX1_drop 6 = .ok (.iload_n 2, 1) := by decide +kernel
theorem dX1_drop_7 : decode cX1_drop 7 = .ok (.invokevirtual 85, 3) := by decide +kernel
theorem dX1_drop_10 : decode cX1_drop 10 = .ok (.ifCond .ne 5, 3) := by decide +kernel
theorem dX1_drop_13 : decode cX1_drop 13 = .ok (.iconst 0, 1) := by decide +kernel
theorem dX1_drop_14 : decode cX1_drop 14 = .ok (.ireturn, 1) := by decide +kernel
theorem dX1_drop_15 : decode cX1_drop 15 = .ok (.aload_n 0, 1) := by decide +kernel
theorem dX1_drop_16 : decode cX1_drop 16 = .ok (.getfield 19, 3) := by decide +kernel
theorem dX1_drop_19 : decode cX1_drop 19 = .ok (.iload_n 2, 1) := by decide +kernel
theorem dX1_drop_20 : decode cX1_drop 20 = .ok (.invokestatic 81, 3) := by decide +kernel
theorem dX1_drop_23 : decode cX1_drop 23 = .ok (.iconst (-1), 1) := by decide +kernel
theorem dX1_drop_24 : decode cX1_drop 24 = .ok (.iastore, 1) := by decide +kernel
theorem dX1_drop_25 : decode cX1_drop 25 = .ok (.iconst 1, 1) := by decide +kernel
theorem dX1_drop_26 : decode cX1_drop 26 = .ok (.ireturn, 1) := by decide +kernel
theorem dX1_look_0 : decode cX1_look 0 = .ok (.aload_n 0, 1) := by decide +kernel
theorem dX1_look_1 : decode cX1_look 1 = .ok (.iload_n 1, 1) := by decide +kernel
theorem dX1_look_2 : decode cX1_look 2 = .ok (.invokevirtual 85, 3) := by decide +kernel
theorem dX1_look_5 : decode cX1_look 5 = .ok (.ifCond .eq 31, 3) := by decide +kernel
theorem dX1_look_8 : decode cX1_look 8 = .ok (.aload_n 0, 1) := by decide +kernel
theorem dX1_look_9 : decode cX1_look 9 = .ok (.aload_n 0, 1) := by decide +kernel
theorem dX1_look_10 : decode cX1_look 10 = .ok (.getfield 22, 3) := by decide +kernel
theorem dX1_look_13 : decode cX1_look 13 = .ok (.iload_n 1, 1) := by decide +kernel
theorem dX1_look_14 : decode cX1_look 14 = .ok (.invokestatic 81, 3) := by decide +kernel
theorem dX1_look_17 : decode cX1_look 17 = .ok (.iaload, 1) := by decide +kernel
theorem dX1_look_18 : decode cX1_look 18 = .ok (.putfield 88, 3) := by decide +kernel
theorem dX1_look_21 : decode cX1_look 21 = .ok (.aload_n 0, 1) := by decide +kernel
theorem dX1_look_22 : decode cX1_look 22 = .ok (.aload_n 0, 1) := by decide +kernel
theorem dX1_look_23 : decode cX1_look 23 = .ok (.getfield 25, 3) := by decide +kernel
theorem dX1_look_26 : decode cX1_look 26 = .ok (.iload_n 1, 1) := by decide +kernel
theorem dX1_look_27 : decode cX1_look 27 = .ok (.invokestatic 81, 3) := by decide +kernel
theorem dX1_look_30 : decode cX1_look 30 = .ok (.iaload, 1) := by decide +kernel
theorem dX1_look_31 : decode cX1_look 31 = .ok (.putfield 91, 3) := by decide +kernel
theorem dX1_look_34 : decode cX1_look 34 = .ok (.iconst 0, 1) := by decide +kernel
theorem dX1_look_35 : decode cX1_look 35 = .ok (.ireturn, 1) := by decide +kernel
theorem dX1_look_36 : decode cX1_look 36 = .ok (.aload_n 0, 1) := by decide +kernel
theorem dX1_look_37 : decode cX1_look 37 = .ok (.iload_n 1, 1) := by decide +kernel
theorem dX1_look_38 : decode cX1_look 38 = .ok (.invokevirtual 94, 3) := by decide +kernel
theorem dX1_look_41 : decode cX1_look 41 = .ok (.ifCond .ne 6, 3) := by decide +kernel
theorem dX1_look_44 : decode cX1_look 44 = .ok (.bipush (-2), 2) := by decide +kernel
theorem dX1_look_46 : decode cX1_look 46 = .ok (.ireturn, 1) := by decide +kernel
theorem dX1_look_47 : decode cX1_look 47 = .ok (.iload_n 1, 1) := by decide +kernel
theorem dX1_look_48 : decode cX1_look 48 = .ok (.invokestatic 75, 3) := by decide +kernel
theorem dX1_look_51 : decode cX1_look 51 = .ok (.istore_n 3, 1) := by decide +kernel
theorem dX1_look_52 : decode cX1_look 52 = .ok (.iload_n 3, 1) := by decide +kernel
theorem dX1_look_53 : decode cX1_look 53 = .ok (.iconst 2, 1) := by decide +kernel
theorem dX1_look_54 : decode cX1_look 54 = .ok (.if_icmp .ne 23, 3) := by decide +kernel
theorem dX1_look_57 : decode cX1_look 57 = .ok (.aload_n 0, 1) := by decide +kernel
theorem dX1_look_58 : decode cX1_look 58 = .ok (.aload_n 0, 1) := by decide +kernel
theorem dX1_look_59 : decode cX1_look 59 = .ok (.getfield 13, 3) := by decide +kernel
theorem dX1_look_62 : decode cX1_look 62 = .ok (.iconst 2, 1) := by decide +kernel
theorem dX1_look_63 : decode cX1_look 63 = .ok (.iaload, 1) := by decide +kernel
theorem dX1_look_64 : decode cX1_look 64 = .ok (.iconst 4, 1) := by decide +kernel
theorem dX1_look_65 : decode cX1_look 65 = .ok (.iload_n 1, 1) := by decide +kernel
theorem dX1_look_66 : decode cX1_look 66 = .ok (.invokestatic 78, 3) := by decide +kernel
theorem dX1_look_69 : decode cX1_look 69 = .ok (.imul, 1) := by decide +kernel
theorem dX1_look_70 : decode cX1_look 70 = .ok (.iadd, 1) := by decide +kernel
theorem dX1_look_71 : decode cX1_look 71 = .ok (.putfield 91, 3) := by decide +kernel
theorem dX1_look_74 : decode cX1_look 74 = .ok (.goto 143, 3) := by decide +kernel
theorem dX1_look_77 : decode cX1_look 77 = .ok (.aload_n 0, 1) := by decide +kernel
theorem dX1_look_78 : decode cX1_look 78 = .ok (.getfield 13, 3) := by decide +kernel
theorem dX1_look_81 : decode cX1_look 81 = .ok (.iload_n 3, 1) := by decide +kernel
theorem dX1_look_82 : decode cX1_look 82 = .ok (.iaload, 1) := by decide +kernel
theorem dX1_look_83 : decode cX1_look 83 = .ok (.iconst 4, 1) := by decide +kernel
theorem dX1_look_84 : decode cX1_look 84 = .ok (.iload_n 1, 1) := by decide +kernel
theorem dX1_look_85 : decode cX1_look 85 = .ok (.invokestatic 78, 3) := by decide +kernel
theorem dX1_look_88 : decode cX1_look 88 = .ok (.imul, 1) := by decide +kernel
theorem dX1_look_89 : decode cX1_look 89 = .ok (.iadd, 1) := by decide +kernel
theorem dX1_look_90 : decode cX1_look 90 = .ok (.ldc 67, 2) := by decide +kernel
theorem dX1_look_92 : decode cX1_look 92 = .ok (.iand, 1) := by decide +kernel
theorem dX1_look_93 : decode cX1_look 93 = .ok (.istore 4, 2) := by decide +kernel
theorem dX1_look_95 : decode cX1_look 95 = .ok (.iload 4, 2) := by decide +kernel
theorem dX1_look_97 : decode cX1_look 97 = .ok (.invokestatic 75, 3) := by decide +kernel
theorem dX1_look_100 : decode cX1_look 100 = .ok (.iconst 2, 1) := by decide +kernel
theorem dX1_look_101 : decode cX1_look 101 = .ok (.if_icmp .ne 12, 3) := by decide +kernel
theorem dX1_look_104 : decode cX1_look 104 = .ok (.aload_n 0, 1) := by decide +kernel
theorem dX1_look_105 : decode cX1_look 105 = .ok (.iload 4, 2) := by decide +kernel
theorem dX1_look_107 : decode cX1_look 107 = .ok (.invokevirtual 94, 3) := by decide +kernel
theorem dX1_look_110 : decode cX1_look 110 = .ok (.ifCond .ne 6, 3) := by decide +kernel
theorem dX1_look_113 : decode cX1_look 113 = .ok (.bipush (-4), 2) := by decide +kernel
theorem dX1_look_115 : decode cX1_look 115 = .ok (.ireturn, 1) := by decide +kernel
theorem dX1_look_116 : decode cX1_look 116 = .ok (.aload_n 0, 1) := by decide +kernel
theorem dX1_look_117 : decode cX1_look 117 = .ok (.iload 4, 2) := by decide +kernel
theorem dX1_look_119 : decode cX1_look 119 = .ok (.invokevirtual 85, 3) := by decide +kernel
theorem dX1_look_122 : decode cX1_look 122 = .ok (.ifCond .eq 18, 3) := by decide +kernel
theorem dX1_look_125 : decode cX1_look 125 = .ok (.aload_n 0, 1) := by decide +kernel
theorem dX1_look_126 : decode cX1_look 126 = .ok (.getfield 22, 3) := by decide +kernel
theorem dX1_look_129 : decode cX1_look 129 = .ok (.iload 4, 2) := by decide +kernel
theorem dX1_look_131 : decode cX1_look 131 = .ok (.invokestatic 81, 3) := by decide +kernel
theorem dX1_look_134 : decode cX1_look 134 = .ok (.iaload, 1) := by decide +kernel
theorem dX1_look_135 : decode cX1_look 135 = .ok (.istore 5, 2) := by decide +kernel
theorem dX1_look_137 : decode cX1_look 137 = .ok (.goto 61, 3) := by decide +kernel
theorem dX1_look_140 : decode cX1_look 140 = .ok (.aload_n 0, 1) := by decide +kernel
theorem dX1_look_141 : decode cX1_look 141 = .ok (.getfield 13, 3) := by decide +kernel
theorem dX1_look_144 : decode cX1_look 144 = .ok (.iconst 2, 1) := by decide +kernel
theorem dX1_look_145 : decode cX1_look 145 = .ok (.iaload, 1) := by decide +kernel
theorem dX1_look_146 : decode cX1_look 146 = .ok (.iconst 4, 1) := by decide +kernel
theorem dX1_look_147 : decode cX1_look 147 = .ok (.iload 4, 2) := by decide +kernel
theorem dX1_look_149 : decode cX1_look 149 = .ok (.invokestatic 78, 3) := by decide +kernel
theorem dX1_look_152 : decode cX1_look 152 = .ok (.imul, 1) := by decide +kernel
theorem dX1_look_153 : decode cX1_look 153 = .ok (.iadd, 1) := by decide +kernel
theorem dX1_look_154 : decode cX1_look 154 = .ok (.istore 6, 2) := by decide +kernel
theorem dX1_look_156 : decode cX1_look 156 = .ok (.aload_n 0, 1) := by decide +kernel
theorem dX1_look_157 : decode cX1_look 157 = .ok (.iload 6, 2) := by decide +kernel
theorem dX1_look_159 : decode cX1_look 159 = .ok (.invokevirtual 52, 3) := by decide +kernel
theorem dX1_look_162 : decode cX1_look 162 = .ok (.ifCond .ne 6, 3) := by decide +kernel
theorem dX1_look_165 : decode cX1_look 165 = .ok (.bipush (-100), 2) := by decide +kernel
theorem dX1_look_167 : decode cX1_look 167 = .ok (.ireturn, 1) := by decide +kernel
theorem dX1_look_168 : decode cX1_look 168 = .ok (.aload_n 0, 1) := by decide +kernel
theorem dX1_look_169 : decode cX1_look 169 = .ok (.iload 6, 2) := by decide +kernel
theorem dX1_look_171 : decode cX1_look 171 = .ok (.invokevirtual 59, 3) := by decide +kernel
theorem dX1_look_174 : decode cX1_look 174 = .ok (.istore 5, 2) := by decide +kernel
theorem dX1_look_176 : decode cX1_look 176 = .ok (.iload 5, 2) := by decide +kernel
theorem dX1_look_178 : decode cX1_look 178 = .ok (.ifCond .lt 6, 3) := by decide +kernel
theorem dX1_look_181 : decode cX1_look 181 = .ok (.bipush (-13), 2) := by decide +kernel
theorem dX1_look_183 : decode cX1_look 183 = .ok (.ireturn, 1) := by decide +kernel
theorem dX1_look_184 : decode cX1_look 184 = .ok (.iload_n 2, 1) := by decide +kernel
theorem dX1_look_185 : decode cX1_look 185 = .ok (.ifCond .eq 13, 3) := by decide +kernel
theorem dX1_look_188 : decode cX1_look 188 = .ok (.aload_n 0, 1) := by decide +kernel
theorem dX1_look_189 : decode cX1_look 189 = .ok (.iload 4, 2) := by decide +kernel
theorem dX1_look_191 : decode cX1_look 191 = .ok (.iload 5, 2) := by decide +kernel
theorem dX1_look_193 : decode cX1_look 193 = .ok (.iload 6, 2) := by decide +kernel
theorem dX1_look_195 : decode cX1_look 195 = .ok (.invokevirtual 97, 3) := by decide +kernel
theorem dX1_look_198 : decode cX1_look 198 = .ok (.aload_n 0, 1) := by decide +kernel
theorem dX1_look_199 : decode cX1_look 199 = .ok (.bipush 16, 2) := by decide +kernel
theorem dX1_look_201 : decode cX1_look 201 = .ok (.iload 5, 2) := by decide +kernel
theorem dX1_look_203 : decode cX1_look 203 = .ok (.sipush 4095, 3) := by decide +kernel
theorem dX1_look_206 : decode cX1_look 206 = .ok (.iand, 1) := by decide +kernel
theorem dX1_look_207 : decode cX1_look 207 = .ok (.imul, 1) := by decide +kernel
theorem dX1_look_208 : decode cX1_look 208 = .ok (.iload 4, 2) := by decide +kernel
theorem dX1_look_210 : decode cX1_look 210 = .ok (.bipush 16, 2) := by decide +kernel
theorem dX1_look_212 : decode cX1_look 212 = .ok (.irem, 1) := by decide +kernel
theorem dX1_look_213 : decode cX1_look 213 = .ok (.iadd, 1) := by decide +kernel
theorem dX1_look_214 : decode cX1_look 214 = .ok (.putfield 91, 3) := by decide +kernel
theorem dX1_look_217 : decode cX1_look 217 = .ok (.aload_n 0, 1) := by decide +kernel
theorem dX1_look_218 : decode cX1_look 218 = .ok (.aload_n 0, 1) := by decide +kernel
theorem dX1_look_219 : decode cX1_look 219 = .ok (.getfield 91, 3) := by decide +kernel
theorem dX1_look_222 : decode cX1_look 222 = .ok (.invokevirtual 52, 3) := by decide +kernel
theorem dX1_look_225 : decode cX1_look 225 = .ok (.ifCond .ne 6, 3) := by decide +kernel
theorem dX1_look_228 : decode cX1_look 228 = .ok (.bipush (-100), 2) := by decide +kernel
theorem dX1_look_230 : decode cX1_look 230 = .ok (.ireturn, 1) := by decide +kernel
theorem dX1_look_231 : decode cX1_look 231 = .ok (.aload_n 0, 1) := by decide +kernel
theorem dX1_look_232 : decode cX1_look 232 = .ok (.aload_n 0, 1) := by decide +kernel
theorem dX1_look_233 : decode cX1_look 233 = .ok (.aload_n 0, 1) := by decide +kernel
theorem dX1_look_234 : decode cX1_look 234 = .ok (.getfield 91, 3) := by decide +kernel
theorem dX1_look_237 : decode cX1_look 237 = .ok (.invokevirtual 59, 3) := by decide +kernel
theorem dX1_look_240 : decode cX1_look 240 = .ok (.putfield 88, 3) := by decide +kernel
theorem dX1_look_243 : decode cX1_look 243 = .ok (.iconst 0, 1) := by decide +kernel
theorem dX1_look_244 : decode cX1_look 244 = .ok (.ireturn, 1) := by decide +kernel
theorem dX1_isRight_0 : decode cX1_isRight 0 = .ok (.aload_n 0, 1) := by decide +kernel
theorem dX1_isRight_1 : decode cX1_isRight 1 = .ok (.getfield 88, 3) := by decide +kernel
theorem dX1_isRight_4 : decode cX1_isRight 4 = .ok (.bipush 27, 2) := by decide +kernel
theorem dX1_isRight_6 : decode cX1_isRight 6 = .ok (.ishr, 1) := by decide +kernel
theorem dX1_isRight_7 : decode cX1_isRight 7 = .ok (.bipush 15, 2) := by decide +kernel
theorem dX1_isRight_9 : decode cX1_isRight 9 = .ok (.iand, 1) := by decide +kernel
theorem dX1_isRight_10 : decode cX1_isRight 10 = .ok (.istore_n 3, 1) := by decide +kernel
theorem dX1_isRight_11 : decode cX1_isRight 11 = .ok (.iload_n 1, 1) := by decide +kernel
theorem dX1_isRight_12 : decode cX1_isRight 12 = .ok (.iload_n 2, 1) := by decide +kernel
theorem dX1_isRight_13 : decode cX1_isRight 13 = .ok (.ifCond .eq 12, 3) := by decide +kernel
theorem dX1_isRight_16 : decode cX1_isRight 16 = .ok (.aload_n 0, 1) := by decide +kernel
theorem dX1_isRight_17 : decode cX1_isRight 17 = .ok (.getfield 28, 3) := by decide +kernel
theorem dX1_isRight_20 : decode cX1_isRight 20 = .ok (.iload_n 3, 1) := by decide +kernel
theorem dX1_isRight_21 : decode cX1_isRight 21 = .ok (.iaload, 1) := by decide +kernel
theorem dX1_isRight_22 : decode cX1_isRight 22 = .ok (.goto 9, 3) := by decide +kernel
theorem dX1_isRight_25 : decode cX1_isRight 25 = .ok (.aload_n 0, 1) := by decide +kernel
theorem dX1_isRight_26 : decode cX1_isRight 26 = .ok (.getfield 31, 3) := by decide +kernel
theorem dX1_isRight_29 : decode cX1_isRight 29 = .ok (.iload_n 3, 1) := by decide +kernel
theorem dX1_isRight_30 : decode cX1_isRight 30 = .ok (.iaload, 1) := by decide +kernel
theorem dX1_isRight_31 : decode cX1_isRight 31 = .ok (.if_icmp .ge 7, 3) := by decide +kernel
theorem dX1_isRight_34 : decode cX1_isRight 34 = .ok (.iconst 1, 1) := by decide +kernel
theorem dX1_isRight_35 : decode cX1_isRight 35 = .ok (.goto 4, 3) := by decide +kernel
theorem dX1_isRight_38 : decode cX1_isRight 38 = .ok (.iconst 0, 1) := by decide +kernel
theorem dX1_isRight_39 : decode cX1_isRight 39 = .ok (.ireturn, 1) := by decide +kernel
theorem dX1_translate_0 : decode cX1_translate 0 = .ok (.aload_n 0, 1) := by decide +kernel
theorem dX1_translate_1 : decode cX1_translate 1 = .ok (.getfield 71, 3) := by decide +kernel
theorem dX1_translate_4 : decode cX1_translate 4 = .ok (.ifCond .ne 5, 3) := by decide +kernel
theorem dX1_translate_7 : decode cX1_translate 7 = .ok (.iload_n 1, 1) := by decide +kernel
theorem dX1_translate_8 : decode cX1_translate 8 = .ok (.ireturn, 1) := by decide +kernel
theorem dX1_translate_9 : decode cX1_translate 9 = .ok (.iload_n 3, 1) := by decide +kernel
theorem dX1_translate_10 : decode cX1_translate 10 = .ok (.ifCond .eq 7, 3) := by decide +kernel
theorem dX1_translate_13 : decode cX1_translate 13 = .ok (.iconst 4, 1) := by decide +kernel
theorem dX1_translate_14 : decode cX1_translate 14 = .ok (.goto 4, 3) := by decide +kernel
theorem dX1_translate_17 : decode cX1_translate 17 = .ok (.iconst 0, 1) := by decide +kernel
theorem dX1_translate_18 : decode cX1_translate 18 = .ok (.istore 5, 2) := by decide +kernel
theorem dX1_translate_20 : decode cX1_translate 20 = .ok (.aload_n 0, 1) := by decide +kernel
theorem dX1_translate_21 : decode cX1_translate 21 = .ok (.iload_n 1, 1) := by decide +kernel
theorem dX1_translate_22 : decode cX1_translate 22 = .ok (.iload 4, 2) := by decide +kernel
theorem dX1_translate_24 : decode cX1_translate 24 = .ok (.invokevirtual 100, 3) := by decide +kernel
theorem dX1_translate_27 : decode cX1_translate 27 = .ok (.istore 6, 2) := by decide +kernel
theorem dX1_translate_29 : decode cX1_translate 29 = .ok (.iload 6, 2) := by decide +kernel
theorem dX1_translate_31 : decode cX1_translate 31 = .ok (.ifCond .ge 21, 3) := by decide +kernel
theorem dX1_translate_34 : decode cX1_translate 34 = .ok (.iload 6, 2) := by decide +kernel
theorem dX1_translate_36 : decode cX1_translate 36 = .ok (.bipush (-100), 2) := by decide +kernel
theorem dX1_translate_38 : decode cX1_translate 38 = .ok (.if_icmp .ne 8, 3) := by decide +kernel
theorem dX1_translate_41 : decode cX1_translate 41 = .ok (.bipush (-100), 2) := by decide +kernel
theorem dX1_translate_43 : decode cX1_translate 43 = .ok (.goto 8, 3) := by decide +kernel
theorem dX1_translate_46 : decode cX1_translate 46 = .ok (.iload 6, 2) := by decide +kernel
theorem dX1_translate_48 : decode cX1_translate 48 = .ok (.iload 5, 2) := by decide +kernel
theorem dX1_translate_50 : decode cX1_translate 50 = .ok (.isub, 1) := by decide +kernel
theorem dX1_translate_51 : decode cX1_translate 51 = .ok (.ireturn, 1) := by decide +kernel
theorem dX1_translate_52 : decode cX1_translate 52 = .ok (.aload_n 0, 1) := by decide +kernel
theorem dX1_translate_53 : decode cX1_translate 53 = .ok (.iload_n 2, 1) := by decide +kernel
theorem dX1_translate_54 : decode cX1_translate 54 = .ok (.iload_n 3, 1) := by decide +kernel
theorem dX1_translate_55 : decode cX1_translate 55 = .ok (.invokevirtual 104, 3) := by decide +kernel
theorem dX1_translate_58 : decode cX1_translate 58 = .ok (.ifCond .ne 8, 3) := by decide +kernel
theorem dX1_translate_61 : decode cX1_translate 61 = .ok (.iconst (-1), 1) := by decide +kernel
theorem dX1_translate_62 : decode cX1_translate 62 = .ok (.iload 5, 2) := by decide +kernel
theorem dX1_translate_64 : decode cX1_translate 64 = .ok (.isub, 1) := by decide +kernel
theorem dX1_translate_65 : decode cX1_translate 65 = .ok (.ireturn, 1) := by decide +kernel
theorem dX1_translate_66 : decode cX1_translate 66 = .ok (.aload_n 0, 1) := by decide +kernel
theorem dX1_translate_67 : decode cX1_translate 67 = .ok (.getfield 88, 3) := by decide +kernel
theorem dX1_translate_70 : decode cX1_translate 70 = .ok (.ifCond .lt 9, 3) := by decide +kernel
theorem dX1_translate_73 : decode cX1_translate 73 = .ok (.bipush (-11), 2) := by decide +kernel
theorem dX1_translate_75 : decode cX1_translate 75 = .ok (.iload 5, 2) := by decide +kernel
theorem dX1_translate_77 : decode cX1_translate 77 = .ok (.isub, 1) := by decide +kernel
theorem dX1_translate_78 : decode cX1_translate 78 = .ok (.ireturn, 1) := by decide +kernel
theorem dX1_translate_79 : decode cX1_translate 79 = .ok (.iload 4, 2) := by decide +kernel
theorem dX1_translate_81 : decode cX1_translate 81 = .ok (.ifCond .eq 49, 3) := by decide +kernel
theorem dX1_translate_84 : decode cX1_translate 84 = .ok (.iload_n 3, 1) := by decide +kernel
theorem dX1_translate_85 : decode cX1_translate 85 = .ok (.ifCond .eq 45, 3) := by decide +kernel
theorem dX1_translate_88 : decode cX1_translate 88 = .ok (.aload_n 0, 1) := by decide +kernel
theorem dX1_translate_89 : decode cX1_translate 89 = .ok (.getfield 88, 3) := by decide +kernel
theorem dX1_translate_92 : decode cX1_translate 92 = .ok (.bipush 26, 2) := by decide +kernel
theorem dX1_translate_94 : decode cX1_translate 94 = .ok (.ishr, 1) := by decide +kernel
theorem dX1_translate_95 : decode cX1_translate 95 = .ok (.iconst 1, 1) := by decide +kernel
theorem dX1_translate_96 : decode cX1_translate 96 = .ok (.iand, 1) := by decide +kernel
theorem dX1_translate_97 : decode cX1_translate 97 = .ok (.ifCond .ne 33, 3) := by decide +kernel
theorem dX1_translate_100 : decode cX1_translate 100 = .ok (.aload_n 0, 1) := by decide +kernel
theorem dX1_translate_101 : decode cX1_translate 101 = .ok (.aload_n 0, 1) := by decide +kernel
theorem dX1_translate_102 : decode cX1_translate 102 = .ok (.getfield 88, 3) := by decide +kernel
theorem dX1_translate_105 : decode cX1_translate 105 = .ok (.ldc 108, 2) := by decide +kernel
theorem dX1_translate_107 : decode cX1_translate 107 = .ok (.ior, 1) := by decide +kernel
theorem dX1_translate_108 : decode cX1_translate 108 = .ok (.putfield 88, 3) := by decide +kernel
theorem dX1_translate_111 : decode cX1_translate 111 = .ok (.aload_n 0, 1) := by decide +kernel
theorem dX1_translate_112 : decode cX1_translate 112 = .ok (.aload_n 0, 1) := by decide +kernel
theorem dX1_translate_113 : decode cX1_translate 113 = .ok (.getfield 91, 3) := by decide +kernel
theorem dX1_translate_116 : decode cX1_translate 116 = .ok (.aload_n 0, 1) := by decide +kernel
theorem dX1_translate_117 : decode cX1_translate 117 = .ok (.aload_n 0, 1) := by decide +kernel
theorem dX1_translate_118 : decode cX1_translate 118 = .ok (.getfield 91, 3) := by decide +kernel
theorem dX1_translate_121 : decode cX1_translate 121 = .ok (.invokevirtual 59, 3) := by decide +kernel
theorem dX1_translate_124 : decode cX1_translate 124 = .ok (.ldc 108, 2) := by decide +kernel
theorem dX1_translate_126 : decode cX1_translate 126 = .ok (.ior, 1) := by decide +kernel
theorem dX1_translate_127 : decode cX1_translate 127 = .ok (.invokevirtual 55, 3) := by decide +kernel
theorem dX1_translate_130 : decode cX1_translate 130 = .ok (.iload 4, 2) := by decide +kernel
theorem dX1_translate_132 : decode cX1_translate 132 = .ok (.ifCond .eq 16, 3) := by decide +kernel
theorem dX1_translate_135 : decode cX1_translate 135 = .ok (.aload_n 0, 1) := by decide +kernel
theorem dX1_translate_136 : decode cX1_translate 136 = .ok (.iload_n 1, 1) := by decide +kernel
theorem dX1_translate_137 : decode cX1_translate 137 = .ok (.aload_n 0, 1) := by decide +kernel
theorem dX1_translate_138 : decode cX1_translate 138 = .ok (.getfield 88, 3) := by decide +kernel
theorem dX1_translate_141 : decode cX1_translate 141 = .ok (.aload_n 0, 1) := by decide +kernel
theorem dX1_translate_142 : decode cX1_translate 142 = .ok (.getfield 91, 3) := by decide +kernel
