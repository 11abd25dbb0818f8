theorem dX1_init_0 : decode cX1_init 0 = .ok (.aload_n 0, 1) := by decide +kernel
theorem dX1_init_1 : decode cX1_init 1 = .ok (.invokespecial 1, 3) := by decide +kernel
theorem dX1_init_4 : decode cX1_init 4 = .ok (.aload_n 0, 1) := by decide +kernel
theorem dX1_init_5 : decode cX1_init 5 = .ok (.sipush 2048, 3) := by decide +kernel
theorem dX1_init_8 : decode cX1_init 8 = .ok (.newarray .int, 2) := by decide +kernel
theorem dX1_init_10 : decode cX1_init 10 = .ok (.putfield 7, 3) := by decide +kernel
theorem dX1_init_13 : decode cX1_init 13 = .ok (.aload_n 0, 1) := by decide +kernel
theorem dX1_init_14 : decode cX1_init 14 = .ok (.iconst 3, 1) := by decide +kernel
theorem dX1_init_15 : decode cX1_init 15 = .ok (.newarray .int, 2) := by decide +kernel
theorem dX1_init_17 : decode cX1_init 17 = .ok (.putfield 13, 3) := by decide +kernel
theorem dX1_init_20 : decode cX1_init 20 = .ok (.aload_n 0, 1) := by decide +kernel
theorem dX1_init_21 : decode cX1_init 21 = .ok (.iconst 3, 1) := by decide +kernel
theorem dX1_init_22 : decode cX1_init 22 = .ok (.newarray .int, 2) := by decide +kernel
theorem dX1_init_24 : decode cX1_init 24 = .ok (.putfield 16, 3) := by decide +kernel
theorem dX1_init_27 : decode cX1_init 27 = .ok (.aload_n 0, 1) := by decide +kernel
theorem dX1_init_28 : decode cX1_init 28 = .ok (.bipush 16, 2) := by decide +kernel
theorem dX1_init_30 : decode cX1_init 30 = .ok (.newarray .int, 2) := by decide +kernel
theorem dX1_init_32 : decode cX1_init 32 = .ok (.putfield 19, 3) := by decide +kernel
theorem dX1_init_35 : decode cX1_init 35 = .ok (.aload_n 0, 1) := by decide +kernel
theorem dX1_init_36 : decode cX1_init 36 = .ok (.bipush 16, 2) := by decide +kernel
theorem dX1_init_38 : decode cX1_init 38 = .ok (.newarray .int, 2) := by decide +kernel
theorem dX1_init_40 : decode cX1_init 40 = .ok (.putfield 22, 3) := by decide +kernel
theorem dX1_init_43 : decode cX1_init 43 = .ok (.aload_n 0, 1) := by decide +kernel
theorem dX1_init_44 : decode cX1_init 44 = .ok (.bipush 16, 2) := by decide +kernel
theorem dX1_init_46 : decode cX1_init 46 = .ok (.newarray .int, 2) := by decide +kernel
theorem dX1_init_48 : decode cX1_init 48 = .ok (.putfield 25, 3) := by decide +kernel
theorem dX1_init_51 : decode cX1_init 51 = .ok (.aload_n 0, 1) := by decide +kernel
theorem dX1_init_52 : decode cX1_init 52 = .ok (.bipush 16, 2) := by decide +kernel
theorem dX1_init_54 : decode cX1_init 54 = .ok (.newarray .int, 2) := by decide +kernel
theorem dX1_init_56 : decode cX1_init 56 = .ok (.putfield 28, 3) := by decide +kernel
theorem dX1_init_59 : decode cX1_init 59 = .ok (.aload_n 0, 1) := by decide +kernel
theorem dX1_init_60 : decode cX1_init 60 = .ok (.bipush 16, 2) := by decide +kernel
theorem dX1_init_62 : decode cX1_init 62 = .ok (.newarray .int, 2) := by decide +kernel
theorem dX1_init_64 : decode cX1_init 64 = .ok (.putfield 31, 3) := by decide +kernel
theorem dX1_init_67 : decode cX1_init 67 = .ok (.aload_n 0, 1) := by decide +kernel
theorem dX1_init_68 : decode cX1_init 68 = .ok (.iconst 4, 1) := by decide +kernel
theorem dX1_init_69 : decode cX1_init 69 = .ok (.newarray .int, 2) := by decide +kernel
theorem dX1_init_71 : decode cX1_init 71 = .ok (.putfield 34, 3) := by decide +kernel
theorem dX1_init_74 : decode cX1_init 74 = .ok (.aload_n 0, 1) := by decide +kernel
theorem dX1_init_75 : decode cX1_init 75 = .ok (.iconst (-1), 1) := by decide +kernel
theorem dX1_init_76 : decode cX1_init 76 = .ok (.putfield 37, 3) := by decide +kernel
theorem dX1_init_79 : decode cX1_init 79 = .ok (.aload_n 0, 1) := by decide +kernel
theorem dX1_init_80 : decode cX1_init 80 = .ok (.bipush 16, 2) := by decide +kernel
theorem dX1_init_82 : decode cX1_init 82 = .ok (.iload_n 1, 1) := by decide +kernel
theorem dX1_init_83 : decode cX1_init 83 = .ok (.iconst 4, 1) := by decide +kernel
theorem dX1_init_84 : decode cX1_init 84 = .ok (.if_icmp .lt 14, 3) := by decide +kernel
theorem dX1_init_87 : decode cX1_init 87 = .ok (.iload_n 1, 1) := by decide +kernel
theorem dX1_init_88 : decode cX1_init 88 = .ok (.sipush 128, 3) := by decide +kernel
theorem dX1_init_91 : decode cX1_init 91 = .ok (.if_icmp .gt 7, 3) := by decide +kernel
theorem dX1_init_94 : decode cX1_init 94 = .ok (.iload_n 1, 1) := by decide +kernel
theorem dX1_init_95 : decode cX1_init 95 = .ok (.goto 5, 3) := by decide +kernel
theorem dX1_init_98 : decode cX1_init 98 = .ok (.bipush 32, 2) := by decide +kernel
theorem dX1_init_100 : decode cX1_init 100 = .ok (.imul, 1) := by decide +kernel
theorem dX1_init_101 : decode cX1_init 101 = .ok (.putfield 41, 3) := by decide +kernel
theorem dX1_init_104 : decode cX1_init 104 = .ok (.iconst 0, 1) := by decide +kernel
theorem dX1_init_105 : decode cX1_init 105 = .ok (.istore_n 2, 1) := by decide +kernel
theorem dX1_init_106 : decode cX1_init 106 = .ok (.iload_n 2, 1) := by decide +kernel
theorem dX1_init_107 : decode cX1_init 107 = .ok (.bipush 16, 2) := by decide +kernel
theorem dX1_init_109 : decode cX1_init 109 = .ok (.if_icmp .ge 16, 3) := by decide +kernel
theorem dX1_init_112 : decode cX1_init 112 = .ok (.aload_n 0, 1) := by decide +kernel
theorem dX1_init_113 : decode cX1_init 113 = .ok (.getfield 19, 3) := by decide +kernel
theorem dX1_init_116 : decode cX1_init 116 = .ok (.iload_n 2, 1) := by decide +kernel
theorem dX1_init_117 : decode cX1_init 117 = .ok (.iconst (-1), 1) := by decide +kernel
theorem dX1_init_118 : decode cX1_init 118 = .ok (.iastore, 1) := by decide +kernel
theorem dX1_init_119 : decode cX1_init 119 = .ok (.iinc 2 1, 3) := by decide +kernel
theorem dX1_init_122 : decode cX1_init 122 = .ok (.goto (-16), 3) := by decide +kernel
theorem dX1_init_125 : decode cX1_init 125 = .ok (.aload_n 0, 1) := by decide +kernel
theorem dX1_init_126 : decode cX1_init 126 = .ok (.iconst 2, 1) := by decide +kernel
theorem dX1_init_127 : decode cX1_init 127 = .ok (.iconst 1, 1) := by decide +kernel
theorem dX1_init_128 : decode cX1_init 128 = .ok (.iconst 1, 1) := by decide +kernel
theorem dX1_init_129 : decode cX1_init 129 = .ok (.invokevirtual 44, 3) := by decide +kernel
theorem dX1_init_132 : decode cX1_init 132 = .ok (.aload_n 0, 1) := by decide +kernel
theorem dX1_init_133 : decode cX1_init 133 = .ok (.iconst 3, 1) := by decide +kernel
theorem dX1_init_134 : decode cX1_init 134 = .ok (.iconst 0, 1) := by decide +kernel
theorem dX1_init_135 : decode cX1_init 135 = .ok (.iconst 1, 1) := by decide +kernel
theorem dX1_init_136 : decode cX1_init 136 = .ok (.invokevirtual 44, 3) := by decide +kernel
theorem dX1_init_139 : decode cX1_init 139 = .ok (.aload_n 0, 1) := by decide +kernel
theorem dX1_init_140 : decode cX1_init 140 = .ok (.iconst 4, 1) := by decide +kernel
theorem dX1_init_141 : decode cX1_init 141 = .ok (.iconst 4, 1) := by decide +kernel
theorem dX1_init_142 : decode cX1_init 142 = .ok (.iconst 4, 1) := by decide +kernel
theorem dX1_init_143 : decode cX1_init 143 = .ok (.invokevirtual 44, 3) := by decide +kernel
theorem dX1_init_146 : decode cX1_init 146 = .ok (.aload_n 0, 1) := by decide +kernel
theorem dX1_init_147 : decode cX1_init 147 = .ok (.iconst 5, 1) := by decide +kernel
theorem dX1_init_148 : decode cX1_init 148 = .ok (.iconst 2, 1) := by decide +kernel
theorem dX1_init_149 : decode cX1_init 149 = .ok (.iconst 2, 1) := by decide +kernel
theorem dX1_init_150 : decode cX1_init 150 = .ok (.invokevirtual 44, 3) := by decide +kernel
theorem dX1_init_153 : decode cX1_init 153 = .ok (.aload_n 0, 1) := by decide +kernel
theorem dX1_init_154 : decode cX1_init 154 = .ok (.bipush 6, 2) := by decide +kernel
theorem dX1_init_156 : decode cX1_init 156 = .ok (.iconst 1, 1) := by decide +kernel
theorem dX1_init_157 : decode cX1_init 157 = .ok (.iconst 2, 1) := by decide +kernel
theorem dX1_init_158 : decode cX1_init 158 = .ok (.invokevirtual 44, 3) := by decide +kernel
theorem dX1_init_161 : decode cX1_init 161 = .ok (.aload_n 0, 1) := by decide +kernel
theorem dX1_init_162 : decode cX1_init 162 = .ok (.bipush 7, 2) := by decide +kernel
theorem dX1_init_164 : decode cX1_init 164 = .ok (.iconst 0, 1) := by decide +kernel
theorem dX1_init_165 : decode cX1_init 165 = .ok (.iconst 2, 1) := by decide +kernel
theorem dX1_init_166 : decode cX1_init 166 = .ok (.invokevirtual 44, 3) := by decide +kernel
theorem dX1_init_169 : decode cX1_init 169 = .ok (.aload_n 0, 1) := by decide +kernel
theorem dX1_init_170 : decode cX1_init 170 = .ok (.bipush 8, 2) := by decide +kernel
theorem dX1_init_172 : decode cX1_init 172 = .ok (.iconst 3, 1) := by decide +kernel
theorem dX1_init_173 : decode cX1_init 173 = .ok (.iconst 3, 1) := by decide +kernel
theorem dX1_init_174 : decode cX1_init 174 = .ok (.invokevirtual 44, 3) := by decide +kernel
theorem dX1_init_177 : decode cX1_init 177 = .ok (.aload_n 0, 1) := by decide +kernel
theorem dX1_init_178 : decode cX1_init 178 = .ok (.bipush 9, 2) := by decide +kernel
theorem dX1_init_180 : decode cX1_init 180 = .ok (.iconst 2, 1) := by decide +kernel
theorem dX1_init_181 : decode cX1_init 181 = .ok (.iconst 3, 1) := by decide +kernel
theorem dX1_init_182 : decode cX1_init 182 = .ok (.invokevirtual 44, 3) := by decide +kernel
theorem dX1_init_185 : decode cX1_init 185 = .ok (.aload_n 0, 1) := by decide +kernel
theorem dX1_init_186 : decode cX1_init 186 = .ok (.bipush 10, 2) := by decide +kernel
theorem dX1_init_188 : decode cX1_init 188 = .ok (.iconst 1, 1) := by decide +kernel
theorem dX1_init_189 : decode cX1_init 189 = .ok (.iconst 3, 1) := by decide +kernel
theorem dX1_init_190 : decode cX1_init 190 = .ok (.invokevirtual 44, 3) := by decide +kernel
theorem dX1_init_193 : decode cX1_init 193 = .ok (.aload_n 0, 1) := by decide +kernel
theorem dX1_init_194 : decode cX1_init 194 = .ok (.bipush 11, 2) := by decide +kernel
theorem dX1_init_196 : decode cX1_init 196 = .ok (.iconst 0, 1) := by decide +kernel
theorem dX1_init_197 : decode cX1_init 197 = .ok (.iconst 3, 1) := by decide +kernel
theorem dX1_init_198 : decode cX1_init 198 = .ok (.invokevirtual 44, 3) := by decide +kernel
theorem dX1_init_201 : decode cX1_init 201 = .ok (.aload_n 0, 1) := by decide +kernel
theorem dX1_init_202 : decode cX1_init 202 = .ok (.bipush 12, 2) := by decide +kernel
theorem dX1_init_204 : decode cX1_init 204 = .ok (.iconst 3, 1) := by decide +kernel
theorem dX1_init_205 : decode cX1_init 205 = .ok (.iconst 4, 1) := by decide +kernel
theorem dX1_init_206 : decode cX1_init 206 = .ok (.invokevirtual 44, 3) := by decide +kernel
theorem dX1_init_209 : decode cX1_init 209 = .ok (.aload_n 0, 1) := by decide +kernel
theorem dX1_init_210 : decode cX1_init 210 = .ok (.bipush 13, 2) := by decide +kernel
theorem dX1_init_212 : decode cX1_init 212 = .ok (.iconst 2, 1) := by decide +kernel
theorem dX1_init_213 : decode cX1_init 213 = .ok (.iconst 4, 1) := by decide +kernel
theorem dX1_init_214 : decode cX1_init 214 = .ok (.invokevirtual 44, 3) := by decide +kernel
theorem dX1_init_217 : decode cX1_init 217 = .ok (.aload_n 0, 1) := by decide +kernel
theorem dX1_init_218 : decode cX1_init 218 = .ok (.bipush 14, 2) := by decide +kernel
theorem dX1_init_220 : decode cX1_init 220 = .ok (.iconst 1, 1) := by decide +kernel
theorem dX1_init_221 : decode cX1_init 221 = .ok (.iconst 4, 1) := by decide +kernel
theorem dX1_init_222 : decode cX1_init 222 = .ok (.invokevirtual 44, 3) := by decide +kernel
theorem dX1_init_225 : decode cX1_init 225 = .ok (.aload_n 0, 1) := by decide +kernel
theorem dX1_init_226 : decode cX1_init 226 = .ok (.bipush 15, 2) := by decide +kernel
theorem dX1_init_228 : decode cX1_init 228 = .ok (.iconst 0, 1) := by decide +kernel
theorem dX1_init_229 : decode cX1_init 229 = .ok (.iconst 4, 1) := by decide +kernel
theorem dX1_init_230 : decode cX1_init 230 = .ok (.invokevirtual 44, 3) := by decide +kernel
theorem dX1_init_233 : decode cX1_init 233 = .ok (.return_, 1) := by decide +kernel
theorem dX1_code_0 : decode cX1_code 0 = .ok (.aload_n 0, 1) := by decide +kernel
theorem dX1_code_1 : decode cX1_code 1 = .ok (.getfield 28, 3) := by decide +kernel
theorem dX1_code_4 : decode cX1_code 4 = .ok (.iload_n 1, 1) := by decide +kernel
theorem dX1_code_5 : decode cX1_code 5 = .ok (.iload_n 2, 1) := by decide +kernel
theorem dX1_code_6 : decode cX1_code 6 = .ok (.iastore, 1) := by decide +kernel
theorem dX1_code_7 : decode cX1_code 7 = .ok (.aload_n 0, 1) := by decide +kernel
theorem dX1_code_8 : decode cX1_code 8 = .ok (.getfield 31, 3) := by decide +kernel
theorem dX1_code_11 : decode cX1_code 11 = .ok (.iload_n 1, 1) := by decide +kernel
theorem dX1_code_12 : decode cX1_code 12 = .ok (.iload_n 3, 1) := by decide +kernel
theorem dX1_code_13 : decode cX1_code 13 = .ok (.iastore, 1) := by decide +kernel
theorem dX1_code_14 : decode cX1_code 14 = .ok (.return_, 1) := by decide +kernel
theorem dX1_isThere_0 : decode cX1_isThere 0 = .ok (.iload_n 1, 1) := by decide +kernel
theorem dX1_isThere_1 : decode cX1_isThere 1 = .ok (.ifCond .lt 15, 3) := by decide +kernel
theorem dX1_isThere_4 : decode cX1_isThere 4 = .ok (.iload_n 1, 1) := by decide +kernel
theorem dX1_isThere_5 : decode cX1_isThere 5 = .ok (.aload_n 0, 1) := by decide +kernel
theorem dX1_isThere_6 : decode cX1_isThere 6 = .ok (.getfield 41, 3) := by decide +kernel
theorem dX1_isThere_9 : decode cX1_isThere 9 = .ok (.if_icmp .ge 7, 3) := by decide +kernel
theorem dX1_isThere_12 : decode cX1_isThere 12 = .ok (.iconst 1, 1) := by decide +kernel
theorem dX1_isThere_13 : decode cX1_isThere 13 = .ok (.goto 4, 3) := by decide +kernel
theorem dX1_isThere_16 : decode cX1_isThere 16 = .ok (.iconst 0, 1) := by decide +kernel
theorem dX1_isThere_17 : decode cX1_isThere 17 = .ok (.ireturn, 1) := by decide +kernel
theorem dX1_areFour_0 : decode cX1_areFour 0 = .ok (.iload_n 1, 1) := by decide +kernel
theorem dX1_areFour_1 : decode cX1_areFour 1 = .ok (.ifCond .lt 17, 3) := by decide +kernel
theorem dX1_areFour_4 : decode cX1_areFour 4 = .ok (.iload_n 1, 1) := by decide +kernel
theorem dX1_areFour_5 : decode cX1_areFour 5 = .ok (.aload_n 0, 1) := by decide +kernel
theorem dX1_areFour_6 : decode cX1_areFour 6 = .ok (.getfield 41, 3) := by decide +kernel
theorem dX1_areFour_9 : decode cX1_areFour 9 = .ok (.iconst 4, 1) := by decide +kernel
theorem dX1_areFour_10 : decode cX1_areFour 10 = .ok (.isub, 1) := by decide +kernel
theorem dX1_areFour_11 : decode cX1_areFour 11 = .ok (.if_icmp .gt 7, 3) := by decide +kernel
theorem dX1_areFour_14 : decode cX1_areFour 14 = .ok (.iconst 1, 1) := by decide +kernel
theorem dX1_areFour_15 : decode cX1_areFour 15 = .ok (.goto 4, 3) := by decide +kernel
theorem dX1_areFour_18 : decode cX1_areFour 18 = .ok (.iconst 0, 1) := by decide +kernel
theorem dX1_areFour_19 : decode cX1_areFour 19 = .ok (.ireturn, 1) := by decide +kernel
theorem dX1_four_0 : decode cX1_four 0 = .ok (.aload_n 0, 1) := by decide +kernel
theorem dX1_four_1 : decode cX1_four 1 = .ok (.getfield 7, 3) := by decide +kernel
theorem dX1_four_4 : decode cX1_four 4 = .ok (.iload_n 1, 1) := by decide +kernel
theorem dX1_four_5 : decode cX1_four 5 = .ok (.iaload, 1) := by decide +kernel
theorem dX1_four_6 : decode cX1_four 6 = .ok (.aload_n 0, 1) := by decide +kernel
theorem dX1_four_7 : decode cX1_four 7 = .ok (.getfield 7, 3) := by decide +kernel
theorem dX1_four_10 : decode cX1_four 10 = .ok (.iload_n 1, 1) := by decide +kernel
theorem dX1_four_11 : decode cX1_four 11 = .ok (.iconst 1, 1) := by decide +kernel
theorem dX1_four_12 : decode cX1_four 12 = .ok (.iadd, 1) := by decide +kernel
theorem dX1_four_13 : decode cX1_four 13 = .ok (.iaload, 1) := by decide +kernel
theorem dX1_four_14 : decode cX1_four 14 = .ok (.bipush 8, 2) := by decide +kernel
theorem dX1_four_16 : decode cX1_four 16 = .ok (.ishl, 1) := by decide +kernel
theorem dX1_four_17 : decode cX1_four 17 = .ok (.ior, 1) := by decide +kernel
theorem dX1_four_18 : decode cX1_four 18 = .ok (.aload_n 0, 1) := by decide +kernel
theorem dX1_four_19 : decode cX1_four 19 = .ok (.getfield 7, 3) := by decide +kernel
theorem dX1_four_22 : decode cX1_four 22 = .ok (.iload_n 1, 1) := by decide +kernel
theorem dX1_four_23 : decode cX1_four 23 = .ok (.iconst 2, 1) := by decide +kernel
theorem dX1_four_24 : decode cX1_four 24 = .ok (.iadd, 1) := by decide +kernel
theorem dX1_four_25 : decode cX1_four 25 = .ok (.iaload, 1) := by decide +kernel
theorem dX1_four_26 : decode cX1_four 26 = .ok (.bipush 16, 2) := by decide +kernel
theorem dX1_four_28 : decode cX1_four 28 = .ok (.ishl, 1) := by decide +kernel
theorem dX1_four_29 : decode cX1_four 29 = .ok (.ior, 1) := by decide +kernel
theorem dX1_four_30 : decode cX1_four 30 = .ok (.aload_n 0, 1) := by decide +kernel
theorem dX1_four_31 : decode cX1_four 31 = .ok (.getfield 7, 3) := by decide +kernel
theorem dX1_four_34 : decode cX1_four 34 = .ok (.iload_n 1, 1) := by decide +kernel
theorem dX1_four_35 : decode cX1_four 35 = .ok (.iconst 3, 1) := by decide +kernel
theorem dX1_four_36 : decode cX1_four 36 = .ok (.iadd, 1) := by decide +kernel
theorem dX1_four_37 : decode cX1_four 37 = .ok (.iaload, 1) := by decide +kernel
theorem dX1_four_38 : decode cX1_four 38 = .ok (.bipush 24, 2) := by decide +kernel
theorem dX1_four_40 : decode cX1_four 40 = .ok (.ishl, 1) := by decide +kernel
theorem dX1_four_41 : decode cX1_four 41 = .ok (.ior, 1) := by decide +kernel
theorem dX1_four_42 : decode cX1_four 42 = .ok (.ireturn, 1) := by decide +kernel
theorem dX1_putFour_0 : decode cX1_putFour 0 = .ok (.iconst 0, 1) := by decide +kernel
theorem dX1_putFour_1 : decode cX1_putFour 1 = .ok (.istore_n 3, 1) := by decide +kernel
theorem dX1_putFour_2 : decode cX1_putFour 2 = .ok (.iload_n 3, 1) := by decide +kernel
theorem dX1_putFour_3 : decode cX1_putFour 3 = .ok (.iconst 4, 1) := by decide +kernel
theorem dX1_putFour_4 : decode cX1_putFour 4 = .ok (.if_icmp .ge 27, 3) := by decide +kernel
theorem dX1_putFour_7 : decode cX1_putFour 7 = .ok (.aload_n 0, 1) := by decide +kernel
theorem dX1_putFour_8 : decode cX1_putFour 8 = .ok (.getfield 7, 3) := by decide +kernel
theorem dX1_putFour_11 : decode cX1_putFour 11 = .ok (.iload_n 1, 1) := by decide +kernel
theorem dX1_putFour_12 : decode cX1_putFour 12 = .ok (.iload_n 3, 1) := by decide +kernel
theorem dX1_putFour_13 : decode cX1_putFour 13 = .ok (.iadd, 1) := by decide +kernel
theorem dX1_putFour_14 : decode cX1_putFour 14 = .ok (.iload_n 2, 1) := by decide +kernel
theorem dX1_putFour_15 : decode cX1_putFour 15 = .ok (.bipush 8, 2) := by decide +kernel
theorem dX1_putFour_17 : decode cX1_putFour 17 = .ok (.iload_n 3, 1) := by decide +kernel
theorem dX1_putFour_18 : decode cX1_putFour 18 = .ok (.imul, 1) := by decide +kernel
theorem dX1_putFour_19 : decode cX1_putFour 19 = .ok (.ishr, 1) := by decide +kernel
theorem dX1_putFour_20 : decode cX1_putFour 20 = .ok (.sipush 255, 3) := by decide +kernel
theorem dX1_putFour_23 : decode cX1_putFour 23 = .ok (.iand, 1) := by decide +kernel
theorem dX1_putFour_24 : decode cX1_putFour 24 = .ok (.iastore, 1) := by decide +kernel
theorem dX1_putFour_25 : decode cX1_putFour 25 = .ok (.iinc 3 1, 3) := by decide +kernel
theorem dX1_putFour_28 : decode cX1_putFour 28 = .ok (.goto (-26), 3) := by decide +kernel
theorem dX1_putFour_31 : decode cX1_putFour 31 = .ok (.return_, 1) := by decide +kernel
theorem dX1_put_0 : decode cX1_put 0 = .ok (.aload_n 0, 1) := by decide +kernel
theorem dX1_put_1 : decode cX1_put 1 = .ok (.iload_n 1, 1) := by decide +kernel
theorem dX1_put_2 : decode cX1_put 2 = .ok (.invokevirtual 48, 3) := by decide +kernel
theorem dX1_put_5 : decode cX1_put 5 = .ok (.ifCond .ne 5, 3) := by decide +kernel
theorem dX1_put_8 : decode cX1_put 8 = .ok (.iconst 0, 1) := by decide +kernel
theorem dX1_put_9 : decode cX1_put 9 = .ok (.ireturn, 1) := by decide +kernel
theorem dX1_put_10 : decode cX1_put 10 = .ok (.aload_n 0, 1) := by decide +kernel
theorem dX1_put_11 : decode cX1_put 11 = .ok (.getfield 7, 3) := by decide +kernel
theorem dX1_put_14 : decode cX1_put 14 = .ok (.iload_n 1, 1) := by decide +kernel
theorem dX1_put_15 : decode cX1_put 15 = .ok (.iload_n 2, 1) := by decide +kernel
theorem dX1_put_16 : decode cX1_put 16 = .ok (.sipush 255, 3) := by decide +kernel
theorem dX1_put_19 : decode cX1_put 19 = .ok (.iand, 1) := by decide +kernel
theorem dX1_put_20 : decode cX1_put 20 = .ok (.iastore, 1) := by decide +kernel
theorem dX1_put_21 : decode cX1_put 21 = .ok (.iconst 1, 1) := by decide +kernel
theorem dX1_put_22 : decode cX1_put 22 = .ok (.ireturn, 1) := by decide +kernel
theorem dX1_entry_0 : decode cX1_entry 0 = .ok (.aload_n 0, 1) := by decide +kernel
theorem dX1_entry_1 : decode cX1_entry 1 = .ok (.iload_n 1, 1) := by decide +kernel
theorem dX1_entry_2 : decode cX1_entry 2 = .ok (.invokevirtual 52, 3) := by decide +kernel
theorem dX1_entry_5 : decode cX1_entry 5 = .ok (.ifCond .ne 5, 3) := by decide +kernel
theorem dX1_entry_8 : decode cX1_entry 8 = .ok (.iconst 0, 1) := by decide +kernel
theorem dX1_entry_9 : decode cX1_entry 9 = .ok (.ireturn, 1) := by decide +kernel
theorem dX1_entry_10 : decode cX1_entry 10 = .ok (.aload_n 0, 1) := by decide +kernel
theorem dX1_entry_11 : decode cX1_entry 11 = .ok (.iload_n 1, 1) := by decide +kernel
theorem dX1_entry_12 : decode cX1_entry 12 = .ok (.iload_n 2, 1) := by decide +kernel
theorem dX1_entry_13 : decode cX1_entry 13 = .ok (.invokevirtual 55, 3) := by decide +kernel
theorem dX1_entry_16 : decode cX1_entry 16 = .ok (.iconst 1, 1) := by decide +kernel
theorem dX1_entry_17 : decode cX1_entry 17 = .ok (.ireturn, 1) := by decide +kernel
theorem dX1_entryOf_0 : decode cX1_entryOf 0 = .ok (.aload_n 0, 1) := by decide +kernel
theorem dX1_entryOf_1 : decode cX1_entryOf 1 = .ok (.iload_n 1, 1) := by decide +kernel
theorem dX1_entryOf_2 : decode cX1_entryOf 2 = .ok (.invokevirtual 52, 3) := by decide +kernel
theorem dX1_entryOf_5 : decode cX1_entryOf 5 = .ok (.ifCond .eq 16, 3) := by decide +kernel
theorem dX1_entryOf_8 : decode cX1_entryOf 8 = .ok (.aload_n 0, 1) := by decide +kernel
theorem dX1_entryOf_9 : decode cX1_entryOf 9 = .ok (.iload_n 1, 1) := by decide +kernel
theorem dX1_entryOf_10 : decode cX1_entryOf 10 = .ok (.invokevirtual 59, 3) := by decide +kernel
theorem dX1_entryOf_13 : decode cX1_entryOf 13 = .ok (.i2l, 1) := by decide +kernel
theorem dX1_entryOf_14 : decode cX1_entryOf 14 = .ok (.ldc2_w 63, 3) := by decide +kernel
theorem dX1_entryOf_17 : decode cX1_entryOf 17 = .ok (.land, 1) := by decide +kernel
theorem dX1_entryOf_18 : decode cX1_entryOf 18 = .ok (.goto 6, 3) := by decide +kernel
theorem dX1_entryOf_21 : decode cX1_entryOf 21 = .ok (.ldc2_w 65, 3) := by decide +kernel
theorem dX1_entryOf_24 : decode cX1_entryOf 24 = .ok (.lreturn, 1) := by decide +kernel
theorem dX1_forget_0 : decode cX1_forget 0 = .ok (.iload_n 1, 1) := by decide +kernel
theorem dX1_forget_1 : decode cX1_forget 1 = .ok (.istore_n 3, 1) := by decide +kernel
theorem dX1_forget_2 : decode cX1_forget 2 = .ok (.iload_n 3, 1) := by decide +kernel
theorem dX1_forget_3 : decode cX1_forget 3 = .ok (.iload_n 2, 1) := by decide +kernel
theorem dX1_forget_4 : decode cX1_forget 4 = .ok (.if_icmp .ge 16, 3) := by decide +kernel
theorem dX1_forget_7 : decode cX1_forget 7 = .ok (.aload_n 0, 1) := by decide +kernel
theorem dX1_forget_8 : decode cX1_forget 8 = .ok (.getfield 19, 3) := by decide +kernel
theorem dX1_forget_11 : decode cX1_forget 11 = .ok (.iload_n 3, 1) := by decide +kernel
theorem dX1_forget_12 : decode cX1_forget 12 = .ok (.iconst (-1), 1) := by decide +kernel
theorem dX1_forget_13 : decode cX1_forget 13 = .ok (.iastore, 1) := by decide +kernel
theorem dX1_forget_14 : decode cX1_forget 14 = .ok (.iinc 3 1, 3) := by decide +kernel
theorem dX1_forget_17 : decode cX1_forget 17 = .ok (.goto (-15), 3) := by decide +kernel
theorem dX1_forget_20 : decode cX1_forget 20 = .ok (.return_, 1) := by decide +kernel
theorem dX1_region_0 : decode cX1_region 0 = .ok (.iload_n 1, 1) := by decide +kernel
theorem dX1_region_1 : decode cX1_region 1 = .ok (.ifCond .lt 8, 3) := by decide +kernel
theorem dX1_region_4 : decode cX1_region 4 = .ok (.iload_n 1, 1) := by decide +kernel
theorem dX1_region_5 : decode cX1_region 5 = .ok (.iconst 3, 1) := by decide +kernel
theorem dX1_region_6 : decode cX1_region 6 = .ok (.if_icmp .lt 5, 3) := by decide +kernel
theorem dX1_region_9 : decode cX1_region 9 = .ok (.iconst 0, 1) := by decide +kernel
theorem dX1_region_10 : decode cX1_region 10 = .ok (.ireturn, 1) := by decide +kernel
theorem dX1_region_11 : decode cX1_region 11 = .ok (.aload_n 0, 1) := by decide +kernel
theorem dX1_region_12 : decode cX1_region 12 = .ok (.getfield 13, 3) := by decide +kernel
theorem dX1_region_15 : decode cX1_region 15 = .ok (.iload_n 1, 1) := by decide +kernel
theorem dX1_region_16 : decode cX1_region 16 = .ok (.iload_n 2, 1) := by decide +kernel
theorem dX1_region_17 : decode cX1_region 17 = .ok (.ldc 67, 2) := by decide +kernel
theorem dX1_region_19 : decode cX1_region 19 = .ok (.iand, 1) := by decide +kernel
theorem dX1_region_20 : decode cX1_region 20 = .ok (.iastore, 1) := by decide +kernel
theorem dX1_region_21 : decode cX1_region 21 = .ok (.aload_n 0, 1) := by decide +kernel
theorem dX1_region_22 : decode cX1_region 22 = .ok (.getfield 16, 3) := by decide +kernel
theorem dX1_region_25 : decode cX1_region 25 = .ok (.iload_n 1, 1) := by decide +kernel
theorem dX1_region_26 : decode cX1_region 26 = .ok (.iload_n 3, 1) := by decide +kernel
theorem dX1_region_27 : decode cX1_region 27 = .ok (.ldc 67, 2) := by decide +kernel
theorem dX1_region_29 : decode cX1_region 29 = .ok (.iand, 1) := by decide +kernel
theorem dX1_region_30 : decode cX1_region 30 = .ok (.iastore, 1) := by decide +kernel
theorem dX1_region_31 : decode cX1_region 31 = .ok (.aload_n 0, 1) := by decide +kernel
theorem dX1_region_32 : decode cX1_region 32 = .ok (.iconst 0, 1) := by decide +kernel
theorem dX1_region_33 : decode cX1_region 33 = .ok (.iload_n 1, 1) := by decide +kernel
theorem dX1_region_34 : decode cX1_region 34 = .ok (.iconst 2, 1) := by decide +kernel
theorem dX1_region_35 : decode cX1_region 35 = .ok (.if_icmp .ne 8, 3) := by decide +kernel
theorem dX1_region_38 : decode cX1_region 38 = .ok (.bipush 16, 2) := by decide +kernel
theorem dX1_region_40 : decode cX1_region 40 = .ok (.goto 5, 3) := by decide +kernel
theorem dX1_region_43 : decode cX1_region 43 = .ok (.bipush 8, 2) := by decide +kernel
theorem dX1_region_45 : decode cX1_region 45 = .ok (.invokevirtual 68, 3) := by decide +kernel
theorem dX1_region_48 : decode cX1_region 48 = .ok (.iconst 1, 1) := by decide +kernel
theorem dX1_region_49 : decode cX1_region 49 = .ok (.ireturn, 1) := by decide +kernel
theorem dX1_map_0 : decode cX1_map 0 = .ok (.aload_n 0, 1) := by decide +kernel
theorem dX1_map_1 : decode cX1_map 1 = .ok (.iload_n 1, 1) := by decide +kernel
theorem dX1_map_2 : decode cX1_map 2 = .ok (.putfield 71, 3) := by decide +kernel
theorem dX1_map_5 : decode cX1_map 5 = .ok (.aload_n 0, 1) := by decide +kernel
theorem dX1_map_6 : decode cX1_map 6 = .ok (.iconst 0, 1) := by decide +kernel
theorem dX1_map_7 : decode cX1_map 7 = .ok (.bipush 16, 2) := by decide +kernel
theorem dX1_map_9 : decode cX1_map 9 = .ok (.invokevirtual 68, 3) := by decide +kernel
theorem dX1_map_12 : decode cX1_map 12 = .ok (.return_, 1) := by decide +kernel
theorem dX1_regionOf_0 : decode cX1_regionOf 0 = .ok (.iload_n 0, 1) := by decide +kernel
theorem dX1_regionOf_1 : decode cX1_regionOf 1 = .ok (.bipush 14, 2) := by decide +kernel
theorem dX1_regionOf_3 : decode cX1_regionOf 3 = .ok (.ishr, 1) := by decide +kernel
theorem dX1_regionOf_4 : decode cX1_regionOf 4 = .ok (.iconst 3, 1) := by decide +kernel
theorem dX1_regionOf_5 : decode cX1_regionOf 5 = .ok (.iand, 1) := by decide +kernel
theorem dX1_regionOf_6 : decode cX1_regionOf 6 = .ok (.ireturn, 1) := by decide +kernel
theorem dX1_pageOf_0 : decode cX1_pageOf 0 = .ok (.iload_n 0, 1) := by decide +kernel
theorem dX1_pageOf_1 : decode cX1_pageOf 1 = .ok (.iconst 4, 1) := by decide +kernel
theorem dX1_pageOf_2 : decode cX1_pageOf 2 = .ok (.ishr, 1) := by decide +kernel
theorem dX1_pageOf_3 : decode cX1_pageOf 3 = .ok (.sipush 1023, 3) := by decide +kernel
theorem dX1_pageOf_6 : decode cX1_pageOf 6 = .ok (.iand, 1) := by decide +kernel
theorem dX1_pageOf_7 : decode cX1_pageOf 7 = .ok (.ireturn, 1) := by decide +kernel
theorem dX1_slot_0 : decode cX1_slot 0 = .ok (.iload_n 0, 1) := by decide +kernel
theorem dX1_slot_1 : decode cX1_slot 1 = .ok (.invokestatic 75, 3) := by decide +kernel
