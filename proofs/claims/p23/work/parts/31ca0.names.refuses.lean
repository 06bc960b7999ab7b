/-! ===== the names of the law: refuses (printed; those that the walks use) ===== -/
theorem dL_refuses_0 : decode cL_refuses 0 = .ok (.iload_n 2, 1) := by decide +kernel
theorem dL_refuses_1 : decode cL_refuses 1 = .ok (.iconst 2, 1) := by decide +kernel
theorem dL_refuses_2 : decode cL_refuses 2 = .ok (.irem, 1) := by decide +kernel
theorem dL_refuses_3 : decode cL_refuses 3 = .ok (.ifCond .ne 7, 3) := by decide +kernel
theorem dL_refuses_6 : decode cL_refuses 6 = .ok (.iconst 1, 1) := by decide +kernel
theorem dL_refuses_7 : decode cL_refuses 7 = .ok (.goto 4, 3) := by decide +kernel
theorem dL_refuses_10 : decode cL_refuses 10 = .ok (.iconst 0, 1) := by decide +kernel
theorem dL_refuses_11 : decode cL_refuses 11 = .ok (.istore_n 3, 1) := by decide +kernel
theorem dL_refuses_12 : decode cL_refuses 12 = .ok (.iload_n 3, 1) := by decide +kernel
theorem dL_refuses_13 : decode cL_refuses 13 = .ok (.ifCond .eq 9, 3) := by decide +kernel
theorem dL_refuses_16 : decode cL_refuses 16 = .ok (.iconst (-1), 1) := by decide +kernel
theorem dL_refuses_17 : decode cL_refuses 17 = .ok (.iload_n 2, 1) := by decide +kernel
theorem dL_refuses_18 : decode cL_refuses 18 = .ok (.isub, 1) := by decide +kernel
theorem dL_refuses_19 : decode cL_refuses 19 = .ok (.goto 7, 3) := by decide +kernel
theorem dL_refuses_22 : decode cL_refuses 22 = .ok (.bipush 10, 2) := by decide +kernel
theorem dL_refuses_24 : decode cL_refuses 24 = .ok (.iload_n 2, 1) := by decide +kernel
theorem dL_refuses_25 : decode cL_refuses 25 = .ok (.iadd, 1) := by decide +kernel
theorem dL_refuses_26 : decode cL_refuses 26 = .ok (.istore 4, 2) := by decide +kernel
theorem dL_refuses_28 : decode cL_refuses 28 = .ok (.iload_n 3, 1) := by decide +kernel
theorem dL_refuses_29 : decode cL_refuses 29 = .ok (.ifCond .eq 9, 3) := by decide +kernel
theorem dL_refuses_32 : decode cL_refuses 32 = .ok (.iconst (-1), 1) := by decide +kernel
theorem dL_refuses_33 : decode cL_refuses 33 = .ok (.iload_n 2, 1) := by decide +kernel
theorem dL_refuses_34 : decode cL_refuses 34 = .ok (.isub, 1) := by decide +kernel
theorem dL_refuses_35 : decode cL_refuses 35 = .ok (.goto 8, 3) := by decide +kernel
theorem dL_refuses_38 : decode cL_refuses 38 = .ok (.aload_n 1, 1) := by decide +kernel
theorem dL_refuses_39 : decode cL_refuses 39 = .ok (.iconst 0, 1) := by decide +kernel
theorem dL_refuses_40 : decode cL_refuses 40 = .ok (.iaload, 1) := by decide +kernel
theorem dL_refuses_41 : decode cL_refuses 41 = .ok (.iload_n 2, 1) := by decide +kernel
theorem dL_refuses_42 : decode cL_refuses 42 = .ok (.iadd, 1) := by decide +kernel
theorem dL_refuses_43 : decode cL_refuses 43 = .ok (.istore 5, 2) := by decide +kernel
theorem dL_refuses_45 : decode cL_refuses 45 = .ok (.iload_n 3, 1) := by decide +kernel
theorem dL_refuses_46 : decode cL_refuses 46 = .ok (.ifCond .eq 9, 3) := by decide +kernel
theorem dL_refuses_49 : decode cL_refuses 49 = .ok (.iconst (-1), 1) := by decide +kernel
theorem dL_refuses_50 : decode cL_refuses 50 = .ok (.iload_n 2, 1) := by decide +kernel
theorem dL_refuses_51 : decode cL_refuses 51 = .ok (.isub, 1) := by decide +kernel
theorem dL_refuses_52 : decode cL_refuses 52 = .ok (.goto 8, 3) := by decide +kernel
theorem dL_refuses_55 : decode cL_refuses 55 = .ok (.aload_n 1, 1) := by decide +kernel
theorem dL_refuses_56 : decode cL_refuses 56 = .ok (.iconst 1, 1) := by decide +kernel
theorem dL_refuses_57 : decode cL_refuses 57 = .ok (.iaload, 1) := by decide +kernel
theorem dL_refuses_58 : decode cL_refuses 58 = .ok (.iload_n 2, 1) := by decide +kernel
theorem dL_refuses_59 : decode cL_refuses 59 = .ok (.iadd, 1) := by decide +kernel
theorem dL_refuses_60 : decode cL_refuses 60 = .ok (.istore 6, 2) := by decide +kernel
theorem dL_refuses_62 : decode cL_refuses 62 = .ok (.iload_n 3, 1) := by decide +kernel
theorem dL_refuses_63 : decode cL_refuses 63 = .ok (.ifCond .eq 9, 3) := by decide +kernel
theorem dL_refuses_66 : decode cL_refuses 66 = .ok (.iconst (-1), 1) := by decide +kernel
theorem dL_refuses_67 : decode cL_refuses 67 = .ok (.iload_n 2, 1) := by decide +kernel
theorem dL_refuses_68 : decode cL_refuses 68 = .ok (.isub, 1) := by decide +kernel
theorem dL_refuses_69 : decode cL_refuses 69 = .ok (.goto 8, 3) := by decide +kernel
theorem dL_refuses_72 : decode cL_refuses 72 = .ok (.aload_n 1, 1) := by decide +kernel
theorem dL_refuses_73 : decode cL_refuses 73 = .ok (.iconst 2, 1) := by decide +kernel
theorem dL_refuses_74 : decode cL_refuses 74 = .ok (.iaload, 1) := by decide +kernel
theorem dL_refuses_75 : decode cL_refuses 75 = .ok (.iload_n 2, 1) := by decide +kernel
theorem dL_refuses_76 : decode cL_refuses 76 = .ok (.iadd, 1) := by decide +kernel
theorem dL_refuses_77 : decode cL_refuses 77 = .ok (.istore 7, 2) := by decide +kernel
theorem dL_refuses_79 : decode cL_refuses 79 = .ok (.iload_n 3, 1) := by decide +kernel
theorem dL_refuses_80 : decode cL_refuses 80 = .ok (.ifCond .eq 9, 3) := by decide +kernel
theorem dL_refuses_83 : decode cL_refuses 83 = .ok (.iconst (-1), 1) := by decide +kernel
theorem dL_refuses_84 : decode cL_refuses 84 = .ok (.iload_n 2, 1) := by decide +kernel
theorem dL_refuses_85 : decode cL_refuses 85 = .ok (.isub, 1) := by decide +kernel
theorem dL_refuses_86 : decode cL_refuses 86 = .ok (.goto 8, 3) := by decide +kernel
theorem dL_refuses_89 : decode cL_refuses 89 = .ok (.aload_n 1, 1) := by decide +kernel
theorem dL_refuses_90 : decode cL_refuses 90 = .ok (.iconst 3, 1) := by decide +kernel
theorem dL_refuses_91 : decode cL_refuses 91 = .ok (.iaload, 1) := by decide +kernel
theorem dL_refuses_92 : decode cL_refuses 92 = .ok (.iload_n 2, 1) := by decide +kernel
theorem dL_refuses_93 : decode cL_refuses 93 = .ok (.iadd, 1) := by decide +kernel
theorem dL_refuses_94 : decode cL_refuses 94 = .ok (.istore 8, 2) := by decide +kernel
theorem dL_refuses_96 : decode cL_refuses 96 = .ok (.iload_n 3, 1) := by decide +kernel
theorem dL_refuses_97 : decode cL_refuses 97 = .ok (.ifCond .eq 9, 3) := by decide +kernel
theorem dL_refuses_100 : decode cL_refuses 100 = .ok (.iconst (-1), 1) := by decide +kernel
theorem dL_refuses_101 : decode cL_refuses 101 = .ok (.iload_n 2, 1) := by decide +kernel
theorem dL_refuses_102 : decode cL_refuses 102 = .ok (.isub, 1) := by decide +kernel
theorem dL_refuses_103 : decode cL_refuses 103 = .ok (.goto 8, 3) := by decide +kernel
theorem dL_refuses_106 : decode cL_refuses 106 = .ok (.sipush 400, 3) := by decide +kernel
theorem dL_refuses_109 : decode cL_refuses 109 = .ok (.iload_n 2, 1) := by decide +kernel
theorem dL_refuses_110 : decode cL_refuses 110 = .ok (.iadd, 1) := by decide +kernel
theorem dL_refuses_111 : decode cL_refuses 111 = .ok (.istore 9, 2) := by decide +kernel
theorem dL_refuses_113 : decode cL_refuses 113 = .ok (.aload_n 0, 1) := by decide +kernel
theorem dL_refuses_114 : decode cL_refuses 114 = .ok (.invokevirtual 86, 3) := by decide +kernel
theorem dL_refuses_117 : decode cL_refuses 117 = .ok (.bipush 8, 2) := by decide +kernel
theorem dL_refuses_119 : decode cL_refuses 119 = .ok (.idiv, 1) := by decide +kernel
theorem dL_refuses_120 : decode cL_refuses 120 = .ok (.istore 10, 2) := by decide +kernel
theorem dL_refuses_122 : decode cL_refuses 122 = .ok (.aload_n 0, 1) := by decide +kernel
theorem dL_refuses_123 : decode cL_refuses 123 = .ok (.iconst 0, 1) := by decide +kernel
theorem dL_refuses_124 : decode cL_refuses 124 = .ok (.iload 4, 2) := by decide +kernel
theorem dL_refuses_126 : decode cL_refuses 126 = .ok (.invokestatic 90, 3) := by decide +kernel
theorem dL_refuses_129 : decode cL_refuses 129 = .ok (.ldc 15, 2) := by decide +kernel
theorem dL_refuses_131 : decode cL_refuses 131 = .ok (.if_icmp .ne 547, 3) := by decide +kernel
theorem dL_refuses_134 : decode cL_refuses 134 = .ok (.aload_n 0, 1) := by decide +kernel
theorem dL_refuses_135 : decode cL_refuses 135 = .ok (.iload_n 3, 1) := by decide +kernel
theorem dL_refuses_136 : decode cL_refuses 136 = .ok (.ifCond .eq 9, 3) := by decide +kernel
theorem dL_refuses_139 : decode cL_refuses 139 = .ok (.iconst (-1), 1) := by decide +kernel
theorem dL_refuses_140 : decode cL_refuses 140 = .ok (.iload_n 2, 1) := by decide +kernel
theorem dL_refuses_141 : decode cL_refuses 141 = .ok (.isub, 1) := by decide +kernel
theorem dL_refuses_142 : decode cL_refuses 142 = .ok (.goto 7, 3) := by decide +kernel
theorem dL_refuses_145 : decode cL_refuses 145 = .ok (.bipush 16, 2) := by decide +kernel
theorem dL_refuses_147 : decode cL_refuses 147 = .ok (.iload_n 2, 1) := by decide +kernel
theorem dL_refuses_148 : decode cL_refuses 148 = .ok (.iadd, 1) := by decide +kernel
theorem dL_refuses_149 : decode cL_refuses 149 = .ok (.iload_n 2, 1) := by decide +kernel
theorem dL_refuses_150 : decode cL_refuses 150 = .ok (.bipush 10, 2) := by decide +kernel
theorem dL_refuses_152 : decode cL_refuses 152 = .ok (.irem, 1) := by decide +kernel
theorem dL_refuses_153 : decode cL_refuses 153 = .ok (.invokestatic 90, 3) := by decide +kernel
theorem dL_refuses_156 : decode cL_refuses 156 = .ok (.ldc 18, 2) := by decide +kernel
theorem dL_refuses_158 : decode cL_refuses 158 = .ok (.if_icmp .ne 520, 3) := by decide +kernel
theorem dL_refuses_161 : decode cL_refuses 161 = .ok (.aload_n 0, 1) := by decide +kernel
theorem dL_refuses_162 : decode cL_refuses 162 = .ok (.iload 4, 2) := by decide +kernel
theorem dL_refuses_164 : decode cL_refuses 164 = .ok (.iload 10, 2) := by decide +kernel
theorem dL_refuses_166 : decode cL_refuses 166 = .ok (.iload 10, 2) := by decide +kernel
theorem dL_refuses_168 : decode cL_refuses 168 = .ok (.invokestatic 95, 3) := by decide +kernel
theorem dL_refuses_171 : decode cL_refuses 171 = .ok (.ldc 15, 2) := by decide +kernel
theorem dL_refuses_173 : decode cL_refuses 173 = .ok (.if_icmp .ne 505, 3) := by decide +kernel
theorem dL_refuses_176 : decode cL_refuses 176 = .ok (.aload_n 0, 1) := by decide +kernel
theorem dL_refuses_177 : decode cL_refuses 177 = .ok (.iload_n 2, 1) := by decide +kernel
theorem dL_refuses_178 : decode cL_refuses 178 = .ok (.bipush 10, 2) := by decide +kernel
theorem dL_refuses_180 : decode cL_refuses 180 = .ok (.irem, 1) := by decide +kernel
theorem dL_refuses_181 : decode cL_refuses 181 = .ok (.iload_n 3, 1) := by decide +kernel
theorem dL_refuses_182 : decode cL_refuses 182 = .ok (.ifCond .eq 12, 3) := by decide +kernel
theorem dL_refuses_185 : decode cL_refuses 185 = .ok (.iload 10, 2) := by decide +kernel
theorem dL_refuses_187 : decode cL_refuses 187 = .ok (.iconst 1, 1) := by decide +kernel
theorem dL_refuses_188 : decode cL_refuses 188 = .ok (.isub, 1) := by decide +kernel
theorem dL_refuses_189 : decode cL_refuses 189 = .ok (.iload_n 2, 1) := by decide +kernel
theorem dL_refuses_190 : decode cL_refuses 190 = .ok (.isub, 1) := by decide +kernel
theorem dL_refuses_191 : decode cL_refuses 191 = .ok (.goto 7, 3) := by decide +kernel
theorem dL_refuses_194 : decode cL_refuses 194 = .ok (.bipush 50, 2) := by decide +kernel
theorem dL_refuses_196 : decode cL_refuses 196 = .ok (.iload_n 2, 1) := by decide +kernel
theorem dL_refuses_197 : decode cL_refuses 197 = .ok (.iadd, 1) := by decide +kernel
theorem dL_refuses_198 : decode cL_refuses 198 = .ok (.bipush 49, 2) := by decide +kernel
theorem dL_refuses_200 : decode cL_refuses 200 = .ok (.invokestatic 95, 3) := by decide +kernel
theorem dL_refuses_203 : decode cL_refuses 203 = .ok (.ldc 18, 2) := by decide +kernel
theorem dL_refuses_205 : decode cL_refuses 205 = .ok (.if_icmp .ne 473, 3) := by decide +kernel
theorem dL_refuses_208 : decode cL_refuses 208 = .ok (.aload_n 0, 1) := by decide +kernel
theorem dL_refuses_209 : decode cL_refuses 209 = .ok (.iload_n 2, 1) := by decide +kernel
theorem dL_refuses_210 : decode cL_refuses 210 = .ok (.bipush 10, 2) := by decide +kernel
theorem dL_refuses_212 : decode cL_refuses 212 = .ok (.irem, 1) := by decide +kernel
theorem dL_refuses_213 : decode cL_refuses 213 = .ok (.iload 10, 2) := by decide +kernel
theorem dL_refuses_215 : decode cL_refuses 215 = .ok (.iload_n 3, 1) := by decide +kernel
theorem dL_refuses_216 : decode cL_refuses 216 = .ok (.ifCond .eq 12, 3) := by decide +kernel
theorem dL_refuses_219 : decode cL_refuses 219 = .ok (.iload 10, 2) := by decide +kernel
theorem dL_refuses_221 : decode cL_refuses 221 = .ok (.iconst 1, 1) := by decide +kernel
theorem dL_refuses_222 : decode cL_refuses 222 = .ok (.isub, 1) := by decide +kernel
theorem dL_refuses_223 : decode cL_refuses 223 = .ok (.iload_n 2, 1) := by decide +kernel
theorem dL_refuses_224 : decode cL_refuses 224 = .ok (.isub, 1) := by decide +kernel
theorem dL_refuses_225 : decode cL_refuses 225 = .ok (.goto 7, 3) := by decide +kernel
theorem dL_refuses_228 : decode cL_refuses 228 = .ok (.bipush 50, 2) := by decide +kernel
theorem dL_refuses_230 : decode cL_refuses 230 = .ok (.iload_n 2, 1) := by decide +kernel
theorem dL_refuses_231 : decode cL_refuses 231 = .ok (.iadd, 1) := by decide +kernel
theorem dL_refuses_232 : decode cL_refuses 232 = .ok (.invokestatic 95, 3) := by decide +kernel
theorem dL_refuses_235 : decode cL_refuses 235 = .ok (.ldc 18, 2) := by decide +kernel
theorem dL_refuses_237 : decode cL_refuses 237 = .ok (.if_icmp .ne 441, 3) := by decide +kernel
theorem dL_refuses_240 : decode cL_refuses 240 = .ok (.aload_n 0, 1) := by decide +kernel
theorem dL_refuses_241 : decode cL_refuses 241 = .ok (.iload 5, 2) := by decide +kernel
