/-! ===== the names of the law: isAlike (printed; those that the walks use) ===== -/
theorem dL_isAlike_0 : decode cL_isAlike 0 = .ok (.aload_n 2, 1) := by decide +kernel
theorem dL_isAlike_1 : decode cL_isAlike 1 = .ok (.iconst 0, 1) := by decide +kernel
theorem dL_isAlike_2 : decode cL_isAlike 2 = .ok (.iaload, 1) := by decide +kernel
theorem dL_isAlike_3 : decode cL_isAlike 3 = .ok (.ifCond .ne 7, 3) := by decide +kernel
theorem dL_isAlike_10 : decode cL_isAlike 10 = .ok (.iload_n 3, 1) := by decide +kernel
theorem dL_isAlike_11 : decode cL_isAlike 11 = .ok (.aload_n 2, 1) := by decide +kernel
theorem dL_isAlike_12 : decode cL_isAlike 12 = .ok (.iconst 0, 1) := by decide +kernel
theorem dL_isAlike_13 : decode cL_isAlike 13 = .ok (.iaload, 1) := by decide +kernel
theorem dL_isAlike_14 : decode cL_isAlike 14 = .ok (.irem, 1) := by decide +kernel
theorem dL_isAlike_15 : decode cL_isAlike 15 = .ok (.istore 4, 2) := by decide +kernel
theorem dL_isAlike_17 : decode cL_isAlike 17 = .ok (.aload_n 2, 1) := by decide +kernel
theorem dL_isAlike_18 : decode cL_isAlike 18 = .ok (.iconst 1, 1) := by decide +kernel
theorem dL_isAlike_19 : decode cL_isAlike 19 = .ok (.iaload, 1) := by decide +kernel
theorem dL_isAlike_20 : decode cL_isAlike 20 = .ok (.ifCond .ne 7, 3) := by decide +kernel
theorem dL_isAlike_23 : decode cL_isAlike 23 = .ok (.iconst 0, 1) := by decide +kernel
theorem dL_isAlike_24 : decode cL_isAlike 24 = .ok (.goto 8, 3) := by decide +kernel
theorem dL_isAlike_32 : decode cL_isAlike 32 = .ok (.istore 5, 2) := by decide +kernel
theorem dL_isAlike_34 : decode cL_isAlike 34 = .ok (.aload_n 2, 1) := by decide +kernel
theorem dL_isAlike_35 : decode cL_isAlike 35 = .ok (.iconst 2, 1) := by decide +kernel
theorem dL_isAlike_36 : decode cL_isAlike 36 = .ok (.iaload, 1) := by decide +kernel
theorem dL_isAlike_37 : decode cL_isAlike 37 = .ok (.ifCond .ne 7, 3) := by decide +kernel
theorem dL_isAlike_40 : decode cL_isAlike 40 = .ok (.iconst 0, 1) := by decide +kernel
theorem dL_isAlike_41 : decode cL_isAlike 41 = .ok (.goto 8, 3) := by decide +kernel
theorem dL_isAlike_49 : decode cL_isAlike 49 = .ok (.istore 6, 2) := by decide +kernel
theorem dL_isAlike_51 : decode cL_isAlike 51 = .ok (.iload_n 3, 1) := by decide +kernel
theorem dL_isAlike_52 : decode cL_isAlike 52 = .ok (.iconst 3, 1) := by decide +kernel
theorem dL_isAlike_53 : decode cL_isAlike 53 = .ok (.idiv, 1) := by decide +kernel
theorem dL_isAlike_54 : decode cL_isAlike 54 = .ok (.sipush 400, 3) := by decide +kernel
theorem dL_isAlike_57 : decode cL_isAlike 57 = .ok (.irem, 1) := by decide +kernel
theorem dL_isAlike_58 : decode cL_isAlike 58 = .ok (.istore 7, 2) := by decide +kernel
theorem dL_isAlike_60 : decode cL_isAlike 60 = .ok (.aload_n 0, 1) := by decide +kernel
theorem dL_isAlike_61 : decode cL_isAlike 61 = .ok (.invokevirtual 86, 3) := by decide +kernel
theorem dL_isAlike_64 : decode cL_isAlike 64 = .ok (.aload_n 1, 1) := by decide +kernel
theorem dL_isAlike_65 : decode cL_isAlike 65 = .ok (.invokevirtual 86, 3) := by decide +kernel
theorem dL_isAlike_68 : decode cL_isAlike 68 = .ok (.if_icmp .ne 83, 3) := by decide +kernel
theorem dL_isAlike_71 : decode cL_isAlike 71 = .ok (.aload_n 0, 1) := by decide +kernel
theorem dL_isAlike_72 : decode cL_isAlike 72 = .ok (.iload_n 3, 1) := by decide +kernel
theorem dL_isAlike_73 : decode cL_isAlike 73 = .ok (.bipush 20, 2) := by decide +kernel
theorem dL_isAlike_75 : decode cL_isAlike 75 = .ok (.irem, 1) := by decide +kernel
theorem dL_isAlike_76 : decode cL_isAlike 76 = .ok (.invokestatic 122, 3) := by decide +kernel
theorem dL_isAlike_79 : decode cL_isAlike 79 = .ok (.aload_n 1, 1) := by decide +kernel
theorem dL_isAlike_80 : decode cL_isAlike 80 = .ok (.iload_n 3, 1) := by decide +kernel
theorem dL_isAlike_81 : decode cL_isAlike 81 = .ok (.bipush 20, 2) := by decide +kernel
theorem dL_isAlike_83 : decode cL_isAlike 83 = .ok (.irem, 1) := by decide +kernel
theorem dL_isAlike_84 : decode cL_isAlike 84 = .ok (.invokestatic 122, 3) := by decide +kernel
theorem dL_isAlike_87 : decode cL_isAlike 87 = .ok (.if_icmp .ne 64, 3) := by decide +kernel
theorem dL_isAlike_90 : decode cL_isAlike 90 = .ok (.aload_n 0, 1) := by decide +kernel
theorem dL_isAlike_91 : decode cL_isAlike 91 = .ok (.iload 6, 2) := by decide +kernel
theorem dL_isAlike_93 : decode cL_isAlike 93 = .ok (.invokestatic 126, 3) := by decide +kernel
theorem dL_isAlike_96 : decode cL_isAlike 96 = .ok (.aload_n 1, 1) := by decide +kernel
theorem dL_isAlike_97 : decode cL_isAlike 97 = .ok (.iload 6, 2) := by decide +kernel
theorem dL_isAlike_99 : decode cL_isAlike 99 = .ok (.invokestatic 126, 3) := by decide +kernel
theorem dL_isAlike_102 : decode cL_isAlike 102 = .ok (.if_icmp .ne 49, 3) := by decide +kernel
theorem dL_isAlike_105 : decode cL_isAlike 105 = .ok (.aload_n 0, 1) := by decide +kernel
theorem dL_isAlike_106 : decode cL_isAlike 106 = .ok (.iload 4, 2) := by decide +kernel
theorem dL_isAlike_108 : decode cL_isAlike 108 = .ok (.iload 7, 2) := by decide +kernel
theorem dL_isAlike_110 : decode cL_isAlike 110 = .ok (.invokestatic 129, 3) := by decide +kernel
theorem dL_isAlike_113 : decode cL_isAlike 113 = .ok (.aload_n 1, 1) := by decide +kernel
theorem dL_isAlike_114 : decode cL_isAlike 114 = .ok (.iload 4, 2) := by decide +kernel
theorem dL_isAlike_116 : decode cL_isAlike 116 = .ok (.iload 7, 2) := by decide +kernel
theorem dL_isAlike_118 : decode cL_isAlike 118 = .ok (.invokestatic 129, 3) := by decide +kernel
theorem dL_isAlike_121 : decode cL_isAlike 121 = .ok (.if_icmp .ne 30, 3) := by decide +kernel
theorem dL_isAlike_124 : decode cL_isAlike 124 = .ok (.aload_n 0, 1) := by decide +kernel
theorem dL_isAlike_125 : decode cL_isAlike 125 = .ok (.iload_n 3, 1) := by decide +kernel
theorem dL_isAlike_126 : decode cL_isAlike 126 = .ok (.bipush 10, 2) := by decide +kernel
theorem dL_isAlike_128 : decode cL_isAlike 128 = .ok (.irem, 1) := by decide +kernel
theorem dL_isAlike_129 : decode cL_isAlike 129 = .ok (.iload 7, 2) := by decide +kernel
theorem dL_isAlike_131 : decode cL_isAlike 131 = .ok (.invokestatic 131, 3) := by decide +kernel
theorem dL_isAlike_134 : decode cL_isAlike 134 = .ok (.aload_n 1, 1) := by decide +kernel
theorem dL_isAlike_135 : decode cL_isAlike 135 = .ok (.iload_n 3, 1) := by decide +kernel
theorem dL_isAlike_136 : decode cL_isAlike 136 = .ok (.bipush 10, 2) := by decide +kernel
theorem dL_isAlike_138 : decode cL_isAlike 138 = .ok (.irem, 1) := by decide +kernel
theorem dL_isAlike_139 : decode cL_isAlike 139 = .ok (.iload 7, 2) := by decide +kernel
theorem dL_isAlike_141 : decode cL_isAlike 141 = .ok (.invokestatic 131, 3) := by decide +kernel
theorem dL_isAlike_144 : decode cL_isAlike 144 = .ok (.if_icmp .ne 7, 3) := by decide +kernel
theorem dL_isAlike_147 : decode cL_isAlike 147 = .ok (.iconst 1, 1) := by decide +kernel
theorem dL_isAlike_148 : decode cL_isAlike 148 = .ok (.goto 4, 3) := by decide +kernel
theorem dL_isAlike_152 : decode cL_isAlike 152 = .ok (.istore 8, 2) := by decide +kernel
theorem dL_isAlike_154 : decode cL_isAlike 154 = .ok (.iconst 0, 1) := by decide +kernel
theorem dL_isAlike_155 : decode cL_isAlike 155 = .ok (.istore 9, 2) := by decide +kernel
theorem dL_isAlike_157 : decode cL_isAlike 157 = .ok (.iload 9, 2) := by decide +kernel
theorem dL_isAlike_159 : decode cL_isAlike 159 = .ok (.bipush 9, 2) := by decide +kernel
theorem dL_isAlike_161 : decode cL_isAlike 161 = .ok (.if_icmp .ge 88, 3) := by decide +kernel
theorem dL_isAlike_164 : decode cL_isAlike 164 = .ok (.iload 8, 2) := by decide +kernel
theorem dL_isAlike_166 : decode cL_isAlike 166 = .ok (.ifCond .eq 83, 3) := by decide +kernel
theorem dL_isAlike_169 : decode cL_isAlike 169 = .ok (.aload_n 0, 1) := by decide +kernel
theorem dL_isAlike_170 : decode cL_isAlike 170 = .ok (.iload 5, 2) := by decide +kernel
theorem dL_isAlike_172 : decode cL_isAlike 172 = .ok (.iload 9, 2) := by decide +kernel
theorem dL_isAlike_174 : decode cL_isAlike 174 = .ok (.invokestatic 120, 3) := by decide +kernel
theorem dL_isAlike_177 : decode cL_isAlike 177 = .ok (.aload_n 1, 1) := by decide +kernel
theorem dL_isAlike_178 : decode cL_isAlike 178 = .ok (.iload 5, 2) := by decide +kernel
theorem dL_isAlike_180 : decode cL_isAlike 180 = .ok (.iload 9, 2) := by decide +kernel
theorem dL_isAlike_182 : decode cL_isAlike 182 = .ok (.invokestatic 120, 3) := by decide +kernel
theorem dL_isAlike_185 : decode cL_isAlike 185 = .ok (.if_icmp .ne 55, 3) := by decide +kernel
theorem dL_isAlike_188 : decode cL_isAlike 188 = .ok (.aload_n 0, 1) := by decide +kernel
theorem dL_isAlike_189 : decode cL_isAlike 189 = .ok (.iload 6, 2) := by decide +kernel
theorem dL_isAlike_191 : decode cL_isAlike 191 = .ok (.iload 9, 2) := by decide +kernel
theorem dL_isAlike_193 : decode cL_isAlike 193 = .ok (.invokestatic 124, 3) := by decide +kernel
theorem dL_isAlike_196 : decode cL_isAlike 196 = .ok (.aload_n 1, 1) := by decide +kernel
theorem dL_isAlike_197 : decode cL_isAlike 197 = .ok (.iload 6, 2) := by decide +kernel
theorem dL_isAlike_199 : decode cL_isAlike 199 = .ok (.iload 9, 2) := by decide +kernel
theorem dL_isAlike_201 : decode cL_isAlike 201 = .ok (.invokestatic 124, 3) := by decide +kernel
theorem dL_isAlike_204 : decode cL_isAlike 204 = .ok (.if_icmp .ne 36, 3) := by decide +kernel
theorem dL_isAlike_207 : decode cL_isAlike 207 = .ok (.aload_n 0, 1) := by decide +kernel
theorem dL_isAlike_208 : decode cL_isAlike 208 = .ok (.iload 4, 2) := by decide +kernel
theorem dL_isAlike_210 : decode cL_isAlike 210 = .ok (.iload 7, 2) := by decide +kernel
theorem dL_isAlike_212 : decode cL_isAlike 212 = .ok (.bipush 8, 2) := by decide +kernel
theorem dL_isAlike_214 : decode cL_isAlike 214 = .ok (.idiv, 1) := by decide +kernel
theorem dL_isAlike_215 : decode cL_isAlike 215 = .ok (.iload 9, 2) := by decide +kernel
theorem dL_isAlike_217 : decode cL_isAlike 217 = .ok (.invokestatic 133, 3) := by decide +kernel
theorem dL_isAlike_220 : decode cL_isAlike 220 = .ok (.aload_n 1, 1) := by decide +kernel
theorem dL_isAlike_221 : decode cL_isAlike 221 = .ok (.iload 4, 2) := by decide +kernel
theorem dL_isAlike_223 : decode cL_isAlike 223 = .ok (.iload 7, 2) := by decide +kernel
theorem dL_isAlike_225 : decode cL_isAlike 225 = .ok (.bipush 8, 2) := by decide +kernel
theorem dL_isAlike_227 : decode cL_isAlike 227 = .ok (.idiv, 1) := by decide +kernel
theorem dL_isAlike_228 : decode cL_isAlike 228 = .ok (.iload 9, 2) := by decide +kernel
theorem dL_isAlike_230 : decode cL_isAlike 230 = .ok (.invokestatic 133, 3) := by decide +kernel
theorem dL_isAlike_233 : decode cL_isAlike 233 = .ok (.if_icmp .ne 7, 3) := by decide +kernel
theorem dL_isAlike_236 : decode cL_isAlike 236 = .ok (.iconst 1, 1) := by decide +kernel
theorem dL_isAlike_237 : decode cL_isAlike 237 = .ok (.goto 4, 3) := by decide +kernel
theorem dL_isAlike_241 : decode cL_isAlike 241 = .ok (.istore 8, 2) := by decide +kernel
theorem dL_isAlike_243 : decode cL_isAlike 243 = .ok (.iinc 9 1, 3) := by decide +kernel
theorem dL_isAlike_246 : decode cL_isAlike 246 = .ok (.goto (-89), 3) := by decide +kernel
theorem dL_isAlike_249 : decode cL_isAlike 249 = .ok (.iload 8, 2) := by decide +kernel
theorem dL_isAlike_251 : decode cL_isAlike 251 = .ok (.ireturn, 1) := by decide +kernel
