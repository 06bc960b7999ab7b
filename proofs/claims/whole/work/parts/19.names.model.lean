/-! ===== the model's names (printed) ===== -/
theorem dX9_init_0 : decode cX9_init 0 = .ok (.aload_n 0, 1) := by decide +kernel
theorem dX9_init_1 : decode cX9_init 1 = .ok (.invokespecial 1, 3) := by decide +kernel
theorem dX9_init_4 : decode cX9_init 4 = .ok (.aload_n 0, 1) := by decide +kernel
theorem dX9_init_5 : decode cX9_init 5 = .ok (.sipush 500, 3) := by decide +kernel
theorem dX9_init_8 : decode cX9_init 8 = .ok (.newarray .boolean, 2) := by decide +kernel
theorem dX9_init_10 : decode cX9_init 10 = .ok (.putfield 7, 3) := by decide +kernel
theorem dX9_init_13 : decode cX9_init 13 = .ok (.aload_n 0, 1) := by decide +kernel
theorem dX9_init_14 : decode cX9_init 14 = .ok (.bipush 6, 2) := by decide +kernel
theorem dX9_init_16 : decode cX9_init 16 = .ok (.newarray .int, 2) := by decide +kernel
theorem dX9_init_18 : decode cX9_init 18 = .ok (.putfield 13, 3) := by decide +kernel
theorem dX9_init_21 : decode cX9_init 21 = .ok (.aload_n 0, 1) := by decide +kernel
theorem dX9_init_22 : decode cX9_init 22 = .ok (.bipush 6, 2) := by decide +kernel
theorem dX9_init_24 : decode cX9_init 24 = .ok (.newarray .int, 2) := by decide +kernel
theorem dX9_init_26 : decode cX9_init 26 = .ok (.putfield 17, 3) := by decide +kernel
theorem dX9_init_29 : decode cX9_init 29 = .ok (.aload_n 0, 1) := by decide +kernel
theorem dX9_init_30 : decode cX9_init 30 = .ok (.bipush 6, 2) := by decide +kernel
theorem dX9_init_32 : decode cX9_init 32 = .ok (.newarray .int, 2) := by decide +kernel
theorem dX9_init_34 : decode cX9_init 34 = .ok (.putfield 20, 3) := by decide +kernel
theorem dX9_init_37 : decode cX9_init 37 = .ok (.aload_n 0, 1) := by decide +kernel
theorem dX9_init_38 : decode cX9_init 38 = .ok (.bipush 6, 2) := by decide +kernel
theorem dX9_init_40 : decode cX9_init 40 = .ok (.newarray .int, 2) := by decide +kernel
theorem dX9_init_42 : decode cX9_init 42 = .ok (.putfield 23, 3) := by decide +kernel
theorem dX9_init_45 : decode cX9_init 45 = .ok (.aload_n 0, 1) := by decide +kernel
theorem dX9_init_46 : decode cX9_init 46 = .ok (.bipush 20, 2) := by decide +kernel
theorem dX9_init_48 : decode cX9_init 48 = .ok (.newarray .int, 2) := by decide +kernel
theorem dX9_init_50 : decode cX9_init 50 = .ok (.putfield 26, 3) := by decide +kernel
theorem dX9_init_53 : decode cX9_init 53 = .ok (.aload_n 0, 1) := by decide +kernel
theorem dX9_init_54 : decode cX9_init 54 = .ok (.bipush 20, 2) := by decide +kernel
theorem dX9_init_56 : decode cX9_init 56 = .ok (.newarray .int, 2) := by decide +kernel
theorem dX9_init_58 : decode cX9_init 58 = .ok (.putfield 29, 3) := by decide +kernel
theorem dX9_init_61 : decode cX9_init 61 = .ok (.aload_n 0, 1) := by decide +kernel
theorem dX9_init_62 : decode cX9_init 62 = .ok (.bipush 20, 2) := by decide +kernel
theorem dX9_init_64 : decode cX9_init 64 = .ok (.newarray .int, 2) := by decide +kernel
theorem dX9_init_66 : decode cX9_init 66 = .ok (.putfield 32, 3) := by decide +kernel
theorem dX9_init_69 : decode cX9_init 69 = .ok (.aload_n 0, 1) := by decide +kernel
theorem dX9_init_70 : decode cX9_init 70 = .ok (.bipush 20, 2) := by decide +kernel
theorem dX9_init_72 : decode cX9_init 72 = .ok (.newarray .int, 2) := by decide +kernel
theorem dX9_init_74 : decode cX9_init 74 = .ok (.putfield 35, 3) := by decide +kernel
theorem dX9_init_77 : decode cX9_init 77 = .ok (.aload_n 0, 1) := by decide +kernel
theorem dX9_init_78 : decode cX9_init 78 = .ok (.bipush 30, 2) := by decide +kernel
theorem dX9_init_80 : decode cX9_init 80 = .ok (.newarray .int, 2) := by decide +kernel
theorem dX9_init_82 : decode cX9_init 82 = .ok (.putfield 38, 3) := by decide +kernel
theorem dX9_init_85 : decode cX9_init 85 = .ok (.aload_n 0, 1) := by decide +kernel
theorem dX9_init_86 : decode cX9_init 86 = .ok (.bipush 30, 2) := by decide +kernel
theorem dX9_init_88 : decode cX9_init 88 = .ok (.newarray .int, 2) := by decide +kernel
theorem dX9_init_90 : decode cX9_init 90 = .ok (.putfield 41, 3) := by decide +kernel
theorem dX9_init_93 : decode cX9_init 93 = .ok (.aload_n 0, 1) := by decide +kernel
theorem dX9_init_94 : decode cX9_init 94 = .ok (.bipush 30, 2) := by decide +kernel
theorem dX9_init_96 : decode cX9_init 96 = .ok (.newarray .int, 2) := by decide +kernel
theorem dX9_init_98 : decode cX9_init 98 = .ok (.putfield 44, 3) := by decide +kernel
theorem dX9_init_101 : decode cX9_init 101 = .ok (.aload_n 0, 1) := by decide +kernel
theorem dX9_init_102 : decode cX9_init 102 = .ok (.bipush 30, 2) := by decide +kernel
theorem dX9_init_104 : decode cX9_init 104 = .ok (.newarray .int, 2) := by decide +kernel
theorem dX9_init_106 : decode cX9_init 106 = .ok (.putfield 47, 3) := by decide +kernel
theorem dX9_init_109 : decode cX9_init 109 = .ok (.aload_n 0, 1) := by decide +kernel
theorem dX9_init_110 : decode cX9_init 110 = .ok (.bipush 30, 2) := by decide +kernel
theorem dX9_init_112 : decode cX9_init 112 = .ok (.newarray .int, 2) := by decide +kernel
theorem dX9_init_114 : decode cX9_init 114 = .ok (.putfield 50, 3) := by decide +kernel
theorem dX9_init_117 : decode cX9_init 117 = .ok (.aload_n 0, 1) := by decide +kernel
theorem dX9_init_118 : decode cX9_init 118 = .ok (.bipush 30, 2) := by decide +kernel
theorem dX9_init_120 : decode cX9_init 120 = .ok (.newarray .int, 2) := by decide +kernel
theorem dX9_init_122 : decode cX9_init 122 = .ok (.putfield 53, 3) := by decide +kernel
theorem dX9_init_125 : decode cX9_init 125 = .ok (.aload_n 0, 1) := by decide +kernel
theorem dX9_init_126 : decode cX9_init 126 = .ok (.bipush 20, 2) := by decide +kernel
theorem dX9_init_128 : decode cX9_init 128 = .ok (.newarray .int, 2) := by decide +kernel
theorem dX9_init_130 : decode cX9_init 130 = .ok (.putfield 56, 3) := by decide +kernel
theorem dX9_init_133 : decode cX9_init 133 = .ok (.aload_n 0, 1) := by decide +kernel
theorem dX9_init_134 : decode cX9_init 134 = .ok (.bipush 20, 2) := by decide +kernel
theorem dX9_init_136 : decode cX9_init 136 = .ok (.newarray .int, 2) := by decide +kernel
theorem dX9_init_138 : decode cX9_init 138 = .ok (.putfield 59, 3) := by decide +kernel
theorem dX9_init_141 : decode cX9_init 141 = .ok (.aload_n 0, 1) := by decide +kernel
theorem dX9_init_142 : decode cX9_init 142 = .ok (.bipush 20, 2) := by decide +kernel
theorem dX9_init_144 : decode cX9_init 144 = .ok (.newarray .int, 2) := by decide +kernel
theorem dX9_init_146 : decode cX9_init 146 = .ok (.putfield 62, 3) := by decide +kernel
theorem dX9_init_149 : decode cX9_init 149 = .ok (.aload_n 0, 1) := by decide +kernel
theorem dX9_init_150 : decode cX9_init 150 = .ok (.bipush 20, 2) := by decide +kernel
theorem dX9_init_152 : decode cX9_init 152 = .ok (.newarray .int, 2) := by decide +kernel
theorem dX9_init_154 : decode cX9_init 154 = .ok (.putfield 65, 3) := by decide +kernel
theorem dX9_init_157 : decode cX9_init 157 = .ok (.aload_n 0, 1) := by decide +kernel
theorem dX9_init_158 : decode cX9_init 158 = .ok (.bipush 20, 2) := by decide +kernel
theorem dX9_init_160 : decode cX9_init 160 = .ok (.newarray .int, 2) := by decide +kernel
theorem dX9_init_162 : decode cX9_init 162 = .ok (.putfield 68, 3) := by decide +kernel
theorem dX9_init_165 : decode cX9_init 165 = .ok (.aload_n 0, 1) := by decide +kernel
theorem dX9_init_166 : decode cX9_init 166 = .ok (.bipush 20, 2) := by decide +kernel
theorem dX9_init_168 : decode cX9_init 168 = .ok (.newarray .int, 2) := by decide +kernel
theorem dX9_init_170 : decode cX9_init 170 = .ok (.putfield 71, 3) := by decide +kernel
theorem dX9_init_173 : decode cX9_init 173 = .ok (.aload_n 0, 1) := by decide +kernel
theorem dX9_init_174 : decode cX9_init 174 = .ok (.bipush 40, 2) := by decide +kernel
theorem dX9_init_176 : decode cX9_init 176 = .ok (.newarray .int, 2) := by decide +kernel
theorem dX9_init_178 : decode cX9_init 178 = .ok (.putfield 74, 3) := by decide +kernel
theorem dX9_init_181 : decode cX9_init 181 = .ok (.aload_n 0, 1) := by decide +kernel
theorem dX9_init_182 : decode cX9_init 182 = .ok (.bipush 40, 2) := by decide +kernel
theorem dX9_init_184 : decode cX9_init 184 = .ok (.newarray .int, 2) := by decide +kernel
theorem dX9_init_186 : decode cX9_init 186 = .ok (.putfield 77, 3) := by decide +kernel
theorem dX9_init_189 : decode cX9_init 189 = .ok (.aload_n 0, 1) := by decide +kernel
theorem dX9_init_190 : decode cX9_init 190 = .ok (.bipush 40, 2) := by decide +kernel
theorem dX9_init_192 : decode cX9_init 192 = .ok (.newarray .int, 2) := by decide +kernel
theorem dX9_init_194 : decode cX9_init 194 = .ok (.putfield 80, 3) := by decide +kernel
theorem dX9_init_197 : decode cX9_init 197 = .ok (.aload_n 0, 1) := by decide +kernel
theorem dX9_init_198 : decode cX9_init 198 = .ok (.bipush 40, 2) := by decide +kernel
theorem dX9_init_200 : decode cX9_init 200 = .ok (.newarray .int, 2) := by decide +kernel
theorem dX9_init_202 : decode cX9_init 202 = .ok (.putfield 83, 3) := by decide +kernel
theorem dX9_init_205 : decode cX9_init 205 = .ok (.aload_n 0, 1) := by decide +kernel
theorem dX9_init_206 : decode cX9_init 206 = .ok (.bipush 40, 2) := by decide +kernel
theorem dX9_init_208 : decode cX9_init 208 = .ok (.newarray .int, 2) := by decide +kernel
theorem dX9_init_210 : decode cX9_init 210 = .ok (.putfield 86, 3) := by decide +kernel
theorem dX9_init_213 : decode cX9_init 213 = .ok (.aload_n 0, 1) := by decide +kernel
theorem dX9_init_214 : decode cX9_init 214 = .ok (.bipush 40, 2) := by decide +kernel
theorem dX9_init_216 : decode cX9_init 216 = .ok (.newarray .int, 2) := by decide +kernel
theorem dX9_init_218 : decode cX9_init 218 = .ok (.putfield 89, 3) := by decide +kernel
theorem dX9_init_221 : decode cX9_init 221 = .ok (.aload_n 0, 1) := by decide +kernel
theorem dX9_init_222 : decode cX9_init 222 = .ok (.bipush 40, 2) := by decide +kernel
theorem dX9_init_224 : decode cX9_init 224 = .ok (.newarray .int, 2) := by decide +kernel
theorem dX9_init_226 : decode cX9_init 226 = .ok (.putfield 92, 3) := by decide +kernel
theorem dX9_init_229 : decode cX9_init 229 = .ok (.return_, 1) := by decide +kernel
theorem dX9_thrown_0 : decode cX9_thrown 0 = .ok (.aload_n 0, 1) := by decide +kernel
theorem dX9_thrown_1 : decode cX9_thrown 1 = .ok (.getfield 95, 3) := by decide +kernel
theorem dX9_thrown_4 : decode cX9_thrown 4 = .ok (.ireturn, 1) := by decide +kernel
theorem dX9_in_0 : decode cX9_in 0 = .ok (.iload_n 0, 1) := by decide +kernel
theorem dX9_in_1 : decode cX9_in 1 = .ok (.iload_n 1, 1) := by decide +kernel
theorem dX9_in_2 : decode cX9_in 2 = .ok (.if_icmp .lt 12, 3) := by decide +kernel
theorem dX9_in_5 : decode cX9_in 5 = .ok (.iload_n 0, 1) := by decide +kernel
theorem dX9_in_6 : decode cX9_in 6 = .ok (.iload_n 2, 1) := by decide +kernel
theorem dX9_in_7 : decode cX9_in 7 = .ok (.if_icmp .gt 7, 3) := by decide +kernel
theorem dX9_in_10 : decode cX9_in 10 = .ok (.iconst 1, 1) := by decide +kernel
theorem dX9_in_11 : decode cX9_in 11 = .ok (.goto 4, 3) := by decide +kernel
theorem dX9_in_14 : decode cX9_in 14 = .ok (.iconst 0, 1) := by decide +kernel
theorem dX9_in_15 : decode cX9_in 15 = .ok (.ireturn, 1) := by decide +kernel
theorem dX9_refused_0 : decode cX9_refused 0 = .ok (.aload_n 0, 1) := by decide +kernel
theorem dX9_refused_1 : decode cX9_refused 1 = .ok (.iload_n 1, 1) := by decide +kernel
theorem dX9_refused_2 : decode cX9_refused 2 = .ok (.putfield 95, 3) := by decide +kernel
theorem dX9_refused_5 : decode cX9_refused 5 = .ok (.iload_n 1, 1) := by decide +kernel
theorem dX9_refused_6 : decode cX9_refused 6 = .ok (.ifCond .eq 7, 3) := by decide +kernel
theorem dX9_refused_9 : decode cX9_refused 9 = .ok (.iconst 1, 1) := by decide +kernel
theorem dX9_refused_10 : decode cX9_refused 10 = .ok (.goto 4, 3) := by decide +kernel
theorem dX9_refused_13 : decode cX9_refused 13 = .ok (.iconst 0, 1) := by decide +kernel
theorem dX9_refused_14 : decode cX9_refused 14 = .ok (.ireturn, 1) := by decide +kernel
set_option maxRecDepth 20000 in
theorem ggX9_isPerson_X9_in : GoodIn wsX9_isPerson wsX9_in := goodIn_r _ [4] (by decide +kernel) (by decide +kernel)
set_option maxRecDepth 20000 in
theorem gX9_isPerson_X9_in : GoodIn wsX9_isPerson (va_wsS RX9 99 yX9_in wsX9_in) := goodIn_app (goodIn_of _ (by decide +kernel)) ggX9_isPerson_X9_in
theorem dX9_isPerson_0 : decode cX9_isPerson 0 = .ok (.iload_n 0, 1) := by decide +kernel
theorem dX9_isPerson_1 : decode cX9_isPerson 1 = .ok (.iconst 0, 1) := by decide +kernel
theorem dX9_isPerson_2 : decode cX9_isPerson 2 = .ok (.bipush 9, 2) := by decide +kernel
theorem dX9_isPerson_4 : decode cX9_isPerson 4 = .ok (.invokestatic 99, 3) := by decide +kernel
theorem dX9_isPerson_7 : decode cX9_isPerson 7 = .ok (.ireturn, 1) := by decide +kernel
set_option maxRecDepth 20000 in
theorem ggX9_isMachine_X9_in : GoodIn wsX9_isMachine wsX9_in := goodIn_r _ [5] (by decide +kernel) (by decide +kernel)
set_option maxRecDepth 20000 in
theorem gX9_isMachine_X9_in : GoodIn wsX9_isMachine (va_wsS RX9 99 yX9_in wsX9_in) := goodIn_app (goodIn_of _ (by decide +kernel)) ggX9_isMachine_X9_in
theorem dX9_isMachine_0 : decode cX9_isMachine 0 = .ok (.iload_n 1, 1) := by decide +kernel
theorem dX9_isMachine_1 : decode cX9_isMachine 1 = .ok (.iconst 0, 1) := by decide +kernel
theorem dX9_isMachine_2 : decode cX9_isMachine 2 = .ok (.aload_n 0, 1) := by decide +kernel
theorem dX9_isMachine_3 : decode cX9_isMachine 3 = .ok (.getfield 103, 3) := by decide +kernel
theorem dX9_isMachine_6 : decode cX9_isMachine 6 = .ok (.iconst 1, 1) := by decide +kernel
theorem dX9_isMachine_7 : decode cX9_isMachine 7 = .ok (.isub, 1) := by decide +kernel
theorem dX9_isMachine_8 : decode cX9_isMachine 8 = .ok (.invokestatic 99, 3) := by decide +kernel
theorem dX9_isMachine_11 : decode cX9_isMachine 11 = .ok (.ireturn, 1) := by decide +kernel
set_option maxRecDepth 20000 in
theorem ggX9_isMeeting_X9_in : GoodIn wsX9_isMeeting wsX9_in := goodIn_r _ [5] (by decide +kernel) (by decide +kernel)
set_option maxRecDepth 20000 in
theorem gX9_isMeeting_X9_in : GoodIn wsX9_isMeeting (va_wsS RX9 99 yX9_in wsX9_in) := goodIn_app (goodIn_of _ (by decide +kernel)) ggX9_isMeeting_X9_in
theorem dX9_isMeeting_0 : decode cX9_isMeeting 0 = .ok (.iload_n 1, 1) := by decide +kernel
theorem dX9_isMeeting_1 : decode cX9_isMeeting 1 = .ok (.iconst 0, 1) := by decide +kernel
theorem dX9_isMeeting_2 : decode cX9_isMeeting 2 = .ok (.aload_n 0, 1) := by decide +kernel
theorem dX9_isMeeting_3 : decode cX9_isMeeting 3 = .ok (.getfield 106, 3) := by decide +kernel
theorem dX9_isMeeting_6 : decode cX9_isMeeting 6 = .ok (.iconst 1, 1) := by decide +kernel
theorem dX9_isMeeting_7 : decode cX9_isMeeting 7 = .ok (.isub, 1) := by decide +kernel
theorem dX9_isMeeting_8 : decode cX9_isMeeting 8 = .ok (.invokestatic 99, 3) := by decide +kernel
theorem dX9_isMeeting_11 : decode cX9_isMeeting 11 = .ok (.ireturn, 1) := by decide +kernel
set_option maxRecDepth 20000 in
theorem ggX9_isSwap_X9_in : GoodIn wsX9_isSwap wsX9_in := goodIn_r _ [5] (by decide +kernel) (by decide +kernel)
set_option maxRecDepth 20000 in
theorem gX9_isSwap_X9_in : GoodIn wsX9_isSwap (va_wsS RX9 99 yX9_in wsX9_in) := goodIn_app (goodIn_of _ (by decide +kernel)) ggX9_isSwap_X9_in
theorem dX9_isSwap_0 : decode cX9_isSwap 0 = .ok (.iload_n 1, 1) := by decide +kernel
theorem dX9_isSwap_1 : decode cX9_isSwap 1 = .ok (.iconst 0, 1) := by decide +kernel
theorem dX9_isSwap_2 : decode cX9_isSwap 2 = .ok (.aload_n 0, 1) := by decide +kernel
theorem dX9_isSwap_3 : decode cX9_isSwap 3 = .ok (.getfield 109, 3) := by decide +kernel
theorem dX9_isSwap_6 : decode cX9_isSwap 6 = .ok (.iconst 1, 1) := by decide +kernel
theorem dX9_isSwap_7 : decode cX9_isSwap 7 = .ok (.isub, 1) := by decide +kernel
theorem dX9_isSwap_8 : decode cX9_isSwap 8 = .ok (.invokestatic 99, 3) := by decide +kernel
theorem dX9_isSwap_11 : decode cX9_isSwap 11 = .ok (.ireturn, 1) := by decide +kernel
set_option maxRecDepth 20000 in
theorem ggX9_isBuild_X9_in : GoodIn wsX9_isBuild wsX9_in := goodIn_r _ [5] (by decide +kernel) (by decide +kernel)
set_option maxRecDepth 20000 in
theorem gX9_isBuild_X9_in : GoodIn wsX9_isBuild (va_wsS RX9 99 yX9_in wsX9_in) := goodIn_app (goodIn_of _ (by decide +kernel)) ggX9_isBuild_X9_in
theorem dX9_isBuild_0 : decode cX9_isBuild 0 = .ok (.iload_n 1, 1) := by decide +kernel
theorem dX9_isBuild_1 : decode cX9_isBuild 1 = .ok (.iconst 0, 1) := by decide +kernel
theorem dX9_isBuild_2 : decode cX9_isBuild 2 = .ok (.aload_n 0, 1) := by decide +kernel
theorem dX9_isBuild_3 : decode cX9_isBuild 3 = .ok (.getfield 112, 3) := by decide +kernel
theorem dX9_isBuild_6 : decode cX9_isBuild 6 = .ok (.iconst 1, 1) := by decide +kernel
theorem dX9_isBuild_7 : decode cX9_isBuild 7 = .ok (.isub, 1) := by decide +kernel
theorem dX9_isBuild_8 : decode cX9_isBuild 8 = .ok (.invokestatic 99, 3) := by decide +kernel
theorem dX9_isBuild_11 : decode cX9_isBuild 11 = .ok (.ireturn, 1) := by decide +kernel
set_option maxRecDepth 20000 in
theorem ggX9_isBroken_X9_in : GoodIn wsX9_isBroken wsX9_in := goodIn_r _ [6] (by decide +kernel) (by decide +kernel)
set_option maxRecDepth 20000 in
theorem gX9_isBroken_X9_in : GoodIn wsX9_isBroken (va_wsS RX9 99 yX9_in wsX9_in) := goodIn_app (goodIn_of _ (by decide +kernel)) ggX9_isBroken_X9_in
theorem dX9_isBroken_0 : decode cX9_isBroken 0 = .ok (.iload_n 2, 1) := by decide +kernel
theorem dX9_isBroken_1 : decode cX9_isBroken 1 = .ok (.aload_n 0, 1) := by decide +kernel
theorem dX9_isBroken_2 : decode cX9_isBroken 2 = .ok (.getfield 20, 3) := by decide +kernel
theorem dX9_isBroken_5 : decode cX9_isBroken 5 = .ok (.iload_n 1, 1) := by decide +kernel
theorem dX9_isBroken_6 : decode cX9_isBroken 6 = .ok (.iaload, 1) := by decide +kernel
theorem dX9_isBroken_7 : decode cX9_isBroken 7 = .ok (.aload_n 0, 1) := by decide +kernel
theorem dX9_isBroken_8 : decode cX9_isBroken 8 = .ok (.getfield 23, 3) := by decide +kernel
theorem dX9_isBroken_11 : decode cX9_isBroken 11 = .ok (.iload_n 1, 1) := by decide +kernel
theorem dX9_isBroken_12 : decode cX9_isBroken 12 = .ok (.iaload, 1) := by decide +kernel
theorem dX9_isBroken_13 : decode cX9_isBroken 13 = .ok (.invokestatic 99, 3) := by decide +kernel
theorem dX9_isBroken_16 : decode cX9_isBroken 16 = .ok (.ireturn, 1) := by decide +kernel
theorem dX9_isOnLeave_0 : decode cX9_isOnLeave 0 = .ok (.iload_n 2, 1) := by decide +kernel
theorem dX9_isOnLeave_1 : decode cX9_isOnLeave 1 = .ok (.sipush 400, 3) := by decide +kernel
theorem dX9_isOnLeave_4 : decode cX9_isOnLeave 4 = .ok (.if_icmp .ge 24, 3) := by decide +kernel
theorem dX9_isOnLeave_7 : decode cX9_isOnLeave 7 = .ok (.aload_n 0, 1) := by decide +kernel
theorem dX9_isOnLeave_8 : decode cX9_isOnLeave 8 = .ok (.getfield 7, 3) := by decide +kernel
theorem dX9_isOnLeave_11 : decode cX9_isOnLeave 11 = .ok (.bipush 50, 2) := by decide +kernel
theorem dX9_isOnLeave_13 : decode cX9_isOnLeave 13 = .ok (.iload_n 1, 1) := by decide +kernel
theorem dX9_isOnLeave_14 : decode cX9_isOnLeave 14 = .ok (.imul, 1) := by decide +kernel
theorem dX9_isOnLeave_15 : decode cX9_isOnLeave 15 = .ok (.iload_n 2, 1) := by decide +kernel
theorem dX9_isOnLeave_16 : decode cX9_isOnLeave 16 = .ok (.bipush 8, 2) := by decide +kernel
theorem dX9_isOnLeave_18 : decode cX9_isOnLeave 18 = .ok (.idiv, 1) := by decide +kernel
theorem dX9_isOnLeave_19 : decode cX9_isOnLeave 19 = .ok (.iadd, 1) := by decide +kernel
theorem dX9_isOnLeave_20 : decode cX9_isOnLeave 20 = .ok (.baload, 1) := by decide +kernel
theorem dX9_isOnLeave_21 : decode cX9_isOnLeave 21 = .ok (.ifCond .eq 7, 3) := by decide +kernel
theorem dX9_isOnLeave_24 : decode cX9_isOnLeave 24 = .ok (.iconst 1, 1) := by decide +kernel
theorem dX9_isOnLeave_25 : decode cX9_isOnLeave 25 = .ok (.goto 4, 3) := by decide +kernel
theorem dX9_isOnLeave_28 : decode cX9_isOnLeave 28 = .ok (.iconst 0, 1) := by decide +kernel
theorem dX9_isOnLeave_29 : decode cX9_isOnLeave 29 = .ok (.ireturn, 1) := by decide +kernel
set_option maxRecDepth 20000 in
theorem ggX9_hasIn_X9_in : GoodIn wsX9_hasIn wsX9_in := goodIn_r _ [10] (by decide +kernel) (by decide +kernel)
set_option maxRecDepth 20000 in
theorem gX9_hasIn_X9_in : GoodIn wsX9_hasIn (va_wsS RX9 99 yX9_in wsX9_in) := goodIn_app (goodIn_of _ (by decide +kernel)) ggX9_hasIn_X9_in
theorem dX9_hasIn_0 : decode cX9_hasIn 0 = .ok (.aload_n 0, 1) := by decide +kernel
theorem dX9_hasIn_1 : decode cX9_hasIn 1 = .ok (.getfield 17, 3) := by decide +kernel
theorem dX9_hasIn_4 : decode cX9_hasIn 4 = .ok (.iload_n 1, 1) := by decide +kernel
theorem dX9_hasIn_5 : decode cX9_hasIn 5 = .ok (.iaload, 1) := by decide +kernel
theorem dX9_hasIn_6 : decode cX9_hasIn 6 = .ok (.istore_n 3, 1) := by decide +kernel
theorem dX9_hasIn_7 : decode cX9_hasIn 7 = .ok (.iconst 0, 1) := by decide +kernel
theorem dX9_hasIn_8 : decode cX9_hasIn 8 = .ok (.istore 4, 2) := by decide +kernel
theorem dX9_hasIn_10 : decode cX9_hasIn 10 = .ok (.iload 4, 2) := by decide +kernel
theorem dX9_hasIn_12 : decode cX9_hasIn 12 = .ok (.aload_n 0, 1) := by decide +kernel
theorem dX9_hasIn_13 : decode cX9_hasIn 13 = .ok (.getfield 115, 3) := by decide +kernel
theorem dX9_hasIn_16 : decode cX9_hasIn 16 = .ok (.if_icmp .ge 53, 3) := by decide +kernel
theorem dX9_hasIn_19 : decode cX9_hasIn 19 = .ok (.aload_n 0, 1) := by decide +kernel
theorem dX9_hasIn_20 : decode cX9_hasIn 20 = .ok (.getfield 26, 3) := by decide +kernel
theorem dX9_hasIn_23 : decode cX9_hasIn 23 = .ok (.iload 4, 2) := by decide +kernel
theorem dX9_hasIn_25 : decode cX9_hasIn 25 = .ok (.iaload, 1) := by decide +kernel
theorem dX9_hasIn_26 : decode cX9_hasIn 26 = .ok (.iload_n 1, 1) := by decide +kernel
theorem dX9_hasIn_27 : decode cX9_hasIn 27 = .ok (.if_icmp .ne 34, 3) := by decide +kernel
theorem dX9_hasIn_30 : decode cX9_hasIn 30 = .ok (.iload_n 2, 1) := by decide +kernel
theorem dX9_hasIn_31 : decode cX9_hasIn 31 = .ok (.aload_n 0, 1) := by decide +kernel
theorem dX9_hasIn_32 : decode cX9_hasIn 32 = .ok (.getfield 32, 3) := by decide +kernel
theorem dX9_hasIn_35 : decode cX9_hasIn 35 = .ok (.iload 4, 2) := by decide +kernel
theorem dX9_hasIn_37 : decode cX9_hasIn 37 = .ok (.iaload, 1) := by decide +kernel
theorem dX9_hasIn_38 : decode cX9_hasIn 38 = .ok (.aload_n 0, 1) := by decide +kernel
theorem dX9_hasIn_39 : decode cX9_hasIn 39 = .ok (.getfield 35, 3) := by decide +kernel
theorem dX9_hasIn_42 : decode cX9_hasIn 42 = .ok (.iload 4, 2) := by decide +kernel
theorem dX9_hasIn_44 : decode cX9_hasIn 44 = .ok (.iaload, 1) := by decide +kernel
theorem dX9_hasIn_45 : decode cX9_hasIn 45 = .ok (.invokestatic 99, 3) := by decide +kernel
theorem dX9_hasIn_48 : decode cX9_hasIn 48 = .ok (.ifCond .eq 13, 3) := by decide +kernel
theorem dX9_hasIn_51 : decode cX9_hasIn 51 = .ok (.aload_n 0, 1) := by decide +kernel
theorem dX9_hasIn_52 : decode cX9_hasIn 52 = .ok (.getfield 29, 3) := by decide +kernel
theorem dX9_hasIn_55 : decode cX9_hasIn 55 = .ok (.iload 4, 2) := by decide +kernel
theorem dX9_hasIn_57 : decode cX9_hasIn 57 = .ok (.iaload, 1) := by decide +kernel
theorem dX9_hasIn_58 : decode cX9_hasIn 58 = .ok (.goto 4, 3) := by decide +kernel
theorem dX9_hasIn_61 : decode cX9_hasIn 61 = .ok (.iload_n 3, 1) := by decide +kernel
theorem dX9_hasIn_62 : decode cX9_hasIn 62 = .ok (.istore_n 3, 1) := by decide +kernel
theorem dX9_hasIn_63 : decode cX9_hasIn 63 = .ok (.iinc 4 1, 3) := by decide +kernel
theorem dX9_hasIn_66 : decode cX9_hasIn 66 = .ok (.goto (-56), 3) := by decide +kernel
theorem dX9_hasIn_69 : decode cX9_hasIn 69 = .ok (.iload_n 3, 1) := by decide +kernel
theorem dX9_hasIn_70 : decode cX9_hasIn 70 = .ok (.ireturn, 1) := by decide +kernel
set_option maxRecDepth 20000 in
theorem ggX9_isIn_X9_in : GoodIn wsX9_isIn wsX9_in := goodIn_r _ [7] (by decide +kernel) (by decide +kernel)
set_option maxRecDepth 20000 in
theorem gX9_isIn_X9_in : GoodIn wsX9_isIn (va_wsS RX9 99 yX9_in wsX9_in) := goodIn_app (goodIn_of _ (by decide +kernel)) ggX9_isIn_X9_in
theorem dX9_isIn_0 : decode cX9_isIn 0 = .ok (.aload_n 0, 1) := by decide +kernel
theorem dX9_isIn_1 : decode cX9_isIn 1 = .ok (.getfield 38, 3) := by decide +kernel
theorem dX9_isIn_4 : decode cX9_isIn 4 = .ok (.iload_n 1, 1) := by decide +kernel
theorem dX9_isIn_5 : decode cX9_isIn 5 = .ok (.iaload, 1) := by decide +kernel
theorem dX9_isIn_6 : decode cX9_isIn 6 = .ok (.ifCond .ne 35, 3) := by decide +kernel
theorem dX9_isIn_9 : decode cX9_isIn 9 = .ok (.iload_n 2, 1) := by decide +kernel
theorem dX9_isIn_10 : decode cX9_isIn 10 = .ok (.aload_n 0, 1) := by decide +kernel
theorem dX9_isIn_11 : decode cX9_isIn 11 = .ok (.getfield 44, 3) := by decide +kernel
theorem dX9_isIn_14 : decode cX9_isIn 14 = .ok (.iload_n 1, 1) := by decide +kernel
theorem dX9_isIn_15 : decode cX9_isIn 15 = .ok (.iaload, 1) := by decide +kernel
theorem dX9_isIn_16 : decode cX9_isIn 16 = .ok (.aload_n 0, 1) := by decide +kernel
theorem dX9_isIn_17 : decode cX9_isIn 17 = .ok (.getfield 44, 3) := by decide +kernel
theorem dX9_isIn_20 : decode cX9_isIn 20 = .ok (.iload_n 1, 1) := by decide +kernel
theorem dX9_isIn_21 : decode cX9_isIn 21 = .ok (.iaload, 1) := by decide +kernel
theorem dX9_isIn_22 : decode cX9_isIn 22 = .ok (.aload_n 0, 1) := by decide +kernel
theorem dX9_isIn_23 : decode cX9_isIn 23 = .ok (.getfield 47, 3) := by decide +kernel
theorem dX9_isIn_26 : decode cX9_isIn 26 = .ok (.iload_n 1, 1) := by decide +kernel
theorem dX9_isIn_27 : decode cX9_isIn 27 = .ok (.iaload, 1) := by decide +kernel
theorem dX9_isIn_28 : decode cX9_isIn 28 = .ok (.iadd, 1) := by decide +kernel
theorem dX9_isIn_29 : decode cX9_isIn 29 = .ok (.iconst 1, 1) := by decide +kernel
theorem dX9_isIn_30 : decode cX9_isIn 30 = .ok (.isub, 1) := by decide +kernel
theorem dX9_isIn_31 : decode cX9_isIn 31 = .ok (.invokestatic 99, 3) := by decide +kernel
theorem dX9_isIn_34 : decode cX9_isIn 34 = .ok (.ifCond .eq 7, 3) := by decide +kernel
theorem dX9_isIn_37 : decode cX9_isIn 37 = .ok (.iconst 1, 1) := by decide +kernel
theorem dX9_isIn_38 : decode cX9_isIn 38 = .ok (.goto 4, 3) := by decide +kernel
theorem dX9_isIn_41 : decode cX9_isIn 41 = .ok (.iconst 0, 1) := by decide +kernel
theorem dX9_isIn_42 : decode cX9_isIn 42 = .ok (.ireturn, 1) := by decide +kernel
set_option maxRecDepth 20000 in
theorem ggX9_isPromised_X9_isIn : GoodIn wsX9_isPromised wsX9_isIn := goodIn_r _ [7, 8, 9, 10, 11, 12, 6, 13, 14, 15, 16, 17, 18, 19, 20, 21, 22, 23, 24, 25, 26, 27, 28, 29, 30, 31, 32, 33, 34, 35, 36, 37, 38, 39, 40, 41, 42, 43, 44, 45, 46, 47, 48] (by decide +kernel) (by decide +kernel)
set_option maxRecDepth 20000 in
theorem gX9_isPromised_X9_isIn : GoodIn wsX9_isPromised (wsV RX9 118 RX9 yX9_isIn wsX9_isIn) := goodIn_app (goodIn_of _ (by decide +kernel)) ggX9_isPromised_X9_isIn
theorem dX9_isPromised_0 : decode cX9_isPromised 0 = .ok (.iconst 0, 1) := by decide +kernel
theorem dX9_isPromised_1 : decode cX9_isPromised 1 = .ok (.istore 4, 2) := by decide +kernel
theorem dX9_isPromised_3 : decode cX9_isPromised 3 = .ok (.iconst 0, 1) := by decide +kernel
theorem dX9_isPromised_4 : decode cX9_isPromised 4 = .ok (.istore 5, 2) := by decide +kernel
theorem dX9_isPromised_6 : decode cX9_isPromised 6 = .ok (.iload 5, 2) := by decide +kernel
theorem dX9_isPromised_8 : decode cX9_isPromised 8 = .ok (.aload_n 0, 1) := by decide +kernel
theorem dX9_isPromised_9 : decode cX9_isPromised 9 = .ok (.getfield 106, 3) := by decide +kernel
theorem dX9_isPromised_12 : decode cX9_isPromised 12 = .ok (.if_icmp .ge 48, 3) := by decide +kernel
theorem dX9_isPromised_15 : decode cX9_isPromised 15 = .ok (.iload 4, 2) := by decide +kernel
theorem dX9_isPromised_17 : decode cX9_isPromised 17 = .ok (.ifCond .ne 30, 3) := by decide +kernel
theorem dX9_isPromised_20 : decode cX9_isPromised 20 = .ok (.iload 5, 2) := by decide +kernel
theorem dX9_isPromised_22 : decode cX9_isPromised 22 = .ok (.iload_n 3, 1) := by decide +kernel
theorem dX9_isPromised_23 : decode cX9_isPromised 23 = .ok (.if_icmp .eq 28, 3) := by decide +kernel
theorem dX9_isPromised_26 : decode cX9_isPromised 26 = .ok (.aload_n 0, 1) := by decide +kernel
theorem dX9_isPromised_27 : decode cX9_isPromised 27 = .ok (.getfield 50, 3) := by decide +kernel
theorem dX9_isPromised_30 : decode cX9_isPromised 30 = .ok (.iload 5, 2) := by decide +kernel
theorem dX9_isPromised_32 : decode cX9_isPromised 32 = .ok (.iaload, 1) := by decide +kernel
theorem dX9_isPromised_33 : decode cX9_isPromised 33 = .ok (.iload_n 1, 1) := by decide +kernel
theorem dX9_isPromised_34 : decode cX9_isPromised 34 = .ok (.if_icmp .ne 17, 3) := by decide +kernel
theorem dX9_isPromised_37 : decode cX9_isPromised 37 = .ok (.aload_n 0, 1) := by decide +kernel
theorem dX9_isPromised_38 : decode cX9_isPromised 38 = .ok (.iload 5, 2) := by decide +kernel
theorem dX9_isPromised_40 : decode cX9_isPromised 40 = .ok (.iload_n 2, 1) := by decide +kernel
theorem dX9_isPromised_41 : decode cX9_isPromised 41 = .ok (.invokevirtual 118, 3) := by decide +kernel
theorem dX9_isPromised_44 : decode cX9_isPromised 44 = .ok (.ifCond .eq 7, 3) := by decide +kernel
theorem dX9_isPromised_47 : decode cX9_isPromised 47 = .ok (.iconst 1, 1) := by decide +kernel
theorem dX9_isPromised_48 : decode cX9_isPromised 48 = .ok (.goto 4, 3) := by decide +kernel
theorem dX9_isPromised_51 : decode cX9_isPromised 51 = .ok (.iconst 0, 1) := by decide +kernel
theorem dX9_isPromised_52 : decode cX9_isPromised 52 = .ok (.istore 4, 2) := by decide +kernel
theorem dX9_isPromised_54 : decode cX9_isPromised 54 = .ok (.iinc 5 1, 3) := by decide +kernel
theorem dX9_isPromised_57 : decode cX9_isPromised 57 = .ok (.goto (-51), 3) := by decide +kernel
theorem dX9_isPromised_60 : decode cX9_isPromised 60 = .ok (.iload 4, 2) := by decide +kernel
theorem dX9_isPromised_62 : decode cX9_isPromised 62 = .ok (.ireturn, 1) := by decide +kernel
set_option maxRecDepth 20000 in
theorem ggX9_hasMeeting_X9_isIn : GoodIn wsX9_hasMeeting wsX9_isIn := goodIn_r _ [7, 8, 9, 10, 11, 12, 6, 13, 14, 15, 16, 17, 18, 19, 20, 21, 22, 23, 24, 25, 26, 27, 28, 29, 30, 31, 32, 33, 34, 35, 36, 37, 38, 39, 40, 41, 42, 43, 44, 45, 46, 47, 48] (by decide +kernel) (by decide +kernel)
set_option maxRecDepth 20000 in
theorem gX9_hasMeeting_X9_isIn : GoodIn wsX9_hasMeeting (wsV RX9 118 RX9 yX9_isIn wsX9_isIn) := goodIn_app (goodIn_of _ (by decide +kernel)) ggX9_hasMeeting_X9_isIn
theorem dX9_hasMeeting_0 : decode cX9_hasMeeting 0 = .ok (.iconst 0, 1) := by decide +kernel
theorem dX9_hasMeeting_1 : decode cX9_hasMeeting 1 = .ok (.istore 4, 2) := by decide +kernel
theorem dX9_hasMeeting_3 : decode cX9_hasMeeting 3 = .ok (.iconst 0, 1) := by decide +kernel
theorem dX9_hasMeeting_4 : decode cX9_hasMeeting 4 = .ok (.istore 5, 2) := by decide +kernel
theorem dX9_hasMeeting_6 : decode cX9_hasMeeting 6 = .ok (.iload 5, 2) := by decide +kernel
theorem dX9_hasMeeting_8 : decode cX9_hasMeeting 8 = .ok (.aload_n 0, 1) := by decide +kernel
theorem dX9_hasMeeting_9 : decode cX9_hasMeeting 9 = .ok (.getfield 106, 3) := by decide +kernel
theorem dX9_hasMeeting_12 : decode cX9_hasMeeting 12 = .ok (.if_icmp .ge 52, 3) := by decide +kernel
theorem dX9_hasMeeting_15 : decode cX9_hasMeeting 15 = .ok (.iload 4, 2) := by decide +kernel
theorem dX9_hasMeeting_17 : decode cX9_hasMeeting 17 = .ok (.ifCond .ne 34, 3) := by decide +kernel
theorem dX9_hasMeeting_20 : decode cX9_hasMeeting 20 = .ok (.iload 5, 2) := by decide +kernel
theorem dX9_hasMeeting_22 : decode cX9_hasMeeting 22 = .ok (.iload_n 3, 1) := by decide +kernel
theorem dX9_hasMeeting_23 : decode cX9_hasMeeting 23 = .ok (.if_icmp .eq 32, 3) := by decide +kernel
theorem dX9_hasMeeting_26 : decode cX9_hasMeeting 26 = .ok (.aload_n 0, 1) := by decide +kernel
theorem dX9_hasMeeting_27 : decode cX9_hasMeeting 27 = .ok (.getfield 41, 3) := by decide +kernel
theorem dX9_hasMeeting_30 : decode cX9_hasMeeting 30 = .ok (.iload 5, 2) := by decide +kernel
theorem dX9_hasMeeting_32 : decode cX9_hasMeeting 32 = .ok (.iaload, 1) := by decide +kernel
theorem dX9_hasMeeting_33 : decode cX9_hasMeeting 33 = .ok (.iload_n 1, 1) := by decide +kernel
theorem dX9_hasMeeting_34 : decode cX9_hasMeeting 34 = .ok (.ishr, 1) := by decide +kernel
theorem dX9_hasMeeting_35 : decode cX9_hasMeeting 35 = .ok (.iconst 1, 1) := by decide +kernel
theorem dX9_hasMeeting_36 : decode cX9_hasMeeting 36 = .ok (.iand, 1) := by decide +kernel
theorem dX9_hasMeeting_37 : decode cX9_hasMeeting 37 = .ok (.iconst 1, 1) := by decide +kernel
theorem dX9_hasMeeting_38 : decode cX9_hasMeeting 38 = .ok (.if_icmp .ne 17, 3) := by decide +kernel
theorem dX9_hasMeeting_41 : decode cX9_hasMeeting 41 = .ok (.aload_n 0, 1) := by decide +kernel
theorem dX9_hasMeeting_42 : decode cX9_hasMeeting 42 = .ok (.iload 5, 2) := by decide +kernel
theorem dX9_hasMeeting_44 : decode cX9_hasMeeting 44 = .ok (.iload_n 2, 1) := by decide +kernel
theorem dX9_hasMeeting_45 : decode cX9_hasMeeting 45 = .ok (.invokevirtual 118, 3) := by decide +kernel
theorem dX9_hasMeeting_48 : decode cX9_hasMeeting 48 = .ok (.ifCond .eq 7, 3) := by decide +kernel
theorem dX9_hasMeeting_51 : decode cX9_hasMeeting 51 = .ok (.iconst 1, 1) := by decide +kernel
theorem dX9_hasMeeting_52 : decode cX9_hasMeeting 52 = .ok (.goto 4, 3) := by decide +kernel
theorem dX9_hasMeeting_55 : decode cX9_hasMeeting 55 = .ok (.iconst 0, 1) := by decide +kernel
theorem dX9_hasMeeting_56 : decode cX9_hasMeeting 56 = .ok (.istore 4, 2) := by decide +kernel
theorem dX9_hasMeeting_58 : decode cX9_hasMeeting 58 = .ok (.iinc 5 1, 3) := by decide +kernel
theorem dX9_hasMeeting_61 : decode cX9_hasMeeting 61 = .ok (.goto (-55), 3) := by decide +kernel
theorem dX9_hasMeeting_64 : decode cX9_hasMeeting 64 = .ok (.iload 4, 2) := by decide +kernel
theorem dX9_hasMeeting_66 : decode cX9_hasMeeting 66 = .ok (.ireturn, 1) := by decide +kernel
set_option maxRecDepth 20000 in
theorem ggX9_isBuilding_X9_in : GoodIn wsX9_isBuilding wsX9_in := goodIn_r _ [9] (by decide +kernel) (by decide +kernel)
set_option maxRecDepth 20000 in
theorem gX9_isBuilding_X9_in : GoodIn wsX9_isBuilding (va_wsS RX9 99 yX9_in wsX9_in) := goodIn_app (goodIn_of _ (by decide +kernel)) ggX9_isBuilding_X9_in
theorem dX9_isBuilding_0 : decode cX9_isBuilding 0 = .ok (.iconst 0, 1) := by decide +kernel
theorem dX9_isBuilding_1 : decode cX9_isBuilding 1 = .ok (.istore_n 3, 1) := by decide +kernel
theorem dX9_isBuilding_2 : decode cX9_isBuilding 2 = .ok (.iconst 0, 1) := by decide +kernel
theorem dX9_isBuilding_3 : decode cX9_isBuilding 3 = .ok (.istore 4, 2) := by decide +kernel
theorem dX9_isBuilding_5 : decode cX9_isBuilding 5 = .ok (.iload 4, 2) := by decide +kernel
theorem dX9_isBuilding_7 : decode cX9_isBuilding 7 = .ok (.aload_n 0, 1) := by decide +kernel
theorem dX9_isBuilding_8 : decode cX9_isBuilding 8 = .ok (.getfield 112, 3) := by decide +kernel
theorem dX9_isBuilding_11 : decode cX9_isBuilding 11 = .ok (.if_icmp .ge 72, 3) := by decide +kernel
theorem dX9_isBuilding_14 : decode cX9_isBuilding 14 = .ok (.iload_n 3, 1) := by decide +kernel
theorem dX9_isBuilding_15 : decode cX9_isBuilding 15 = .ok (.ifCond .ne 56, 3) := by decide +kernel
theorem dX9_isBuilding_18 : decode cX9_isBuilding 18 = .ok (.aload_n 0, 1) := by decide +kernel
theorem dX9_isBuilding_19 : decode cX9_isBuilding 19 = .ok (.getfield 74, 3) := by decide +kernel
theorem dX9_isBuilding_22 : decode cX9_isBuilding 22 = .ok (.iload 4, 2) := by decide +kernel
theorem dX9_isBuilding_24 : decode cX9_isBuilding 24 = .ok (.iaload, 1) := by decide +kernel
theorem dX9_isBuilding_25 : decode cX9_isBuilding 25 = .ok (.iconst 1, 1) := by decide +kernel
theorem dX9_isBuilding_26 : decode cX9_isBuilding 26 = .ok (.if_icmp .ne 49, 3) := by decide +kernel
theorem dX9_isBuilding_29 : decode cX9_isBuilding 29 = .ok (.aload_n 0, 1) := by decide +kernel
theorem dX9_isBuilding_30 : decode cX9_isBuilding 30 = .ok (.getfield 86, 3) := by decide +kernel
theorem dX9_isBuilding_33 : decode cX9_isBuilding 33 = .ok (.iload 4, 2) := by decide +kernel
theorem dX9_isBuilding_35 : decode cX9_isBuilding 35 = .ok (.iaload, 1) := by decide +kernel
theorem dX9_isBuilding_36 : decode cX9_isBuilding 36 = .ok (.iload_n 1, 1) := by decide +kernel
theorem dX9_isBuilding_37 : decode cX9_isBuilding 37 = .ok (.if_icmp .ne 38, 3) := by decide +kernel
theorem dX9_isBuilding_40 : decode cX9_isBuilding 40 = .ok (.iload_n 2, 1) := by decide +kernel
theorem dX9_isBuilding_41 : decode cX9_isBuilding 41 = .ok (.aload_n 0, 1) := by decide +kernel
theorem dX9_isBuilding_42 : decode cX9_isBuilding 42 = .ok (.getfield 89, 3) := by decide +kernel
theorem dX9_isBuilding_45 : decode cX9_isBuilding 45 = .ok (.iload 4, 2) := by decide +kernel
theorem dX9_isBuilding_47 : decode cX9_isBuilding 47 = .ok (.iaload, 1) := by decide +kernel
theorem dX9_isBuilding_48 : decode cX9_isBuilding 48 = .ok (.aload_n 0, 1) := by decide +kernel
theorem dX9_isBuilding_49 : decode cX9_isBuilding 49 = .ok (.getfield 89, 3) := by decide +kernel
theorem dX9_isBuilding_52 : decode cX9_isBuilding 52 = .ok (.iload 4, 2) := by decide +kernel
theorem dX9_isBuilding_54 : decode cX9_isBuilding 54 = .ok (.iaload, 1) := by decide +kernel
theorem dX9_isBuilding_55 : decode cX9_isBuilding 55 = .ok (.aload_n 0, 1) := by decide +kernel
theorem dX9_isBuilding_56 : decode cX9_isBuilding 56 = .ok (.getfield 83, 3) := by decide +kernel
theorem dX9_isBuilding_59 : decode cX9_isBuilding 59 = .ok (.iload 4, 2) := by decide +kernel
theorem dX9_isBuilding_61 : decode cX9_isBuilding 61 = .ok (.iaload, 1) := by decide +kernel
theorem dX9_isBuilding_62 : decode cX9_isBuilding 62 = .ok (.iadd, 1) := by decide +kernel
theorem dX9_isBuilding_63 : decode cX9_isBuilding 63 = .ok (.iconst 1, 1) := by decide +kernel
theorem dX9_isBuilding_64 : decode cX9_isBuilding 64 = .ok (.isub, 1) := by decide +kernel
theorem dX9_isBuilding_65 : decode cX9_isBuilding 65 = .ok (.invokestatic 99, 3) := by decide +kernel
theorem dX9_isBuilding_68 : decode cX9_isBuilding 68 = .ok (.ifCond .eq 7, 3) := by decide +kernel
theorem dX9_isBuilding_71 : decode cX9_isBuilding 71 = .ok (.iconst 1, 1) := by decide +kernel
theorem dX9_isBuilding_72 : decode cX9_isBuilding 72 = .ok (.goto 4, 3) := by decide +kernel
theorem dX9_isBuilding_75 : decode cX9_isBuilding 75 = .ok (.iconst 0, 1) := by decide +kernel
theorem dX9_isBuilding_76 : decode cX9_isBuilding 76 = .ok (.istore_n 3, 1) := by decide +kernel
theorem dX9_isBuilding_77 : decode cX9_isBuilding 77 = .ok (.iinc 4 1, 3) := by decide +kernel
theorem dX9_isBuilding_80 : decode cX9_isBuilding 80 = .ok (.goto (-75), 3) := by decide +kernel
theorem dX9_isBuilding_83 : decode cX9_isBuilding 83 = .ok (.iload_n 3, 1) := by decide +kernel
theorem dX9_isBuilding_84 : decode cX9_isBuilding 84 = .ok (.ireturn, 1) := by decide +kernel
theorem dX9_isOnOneDay_0 : decode cX9_isOnOneDay 0 = .ok (.iload_n 0, 1) := by decide +kernel
theorem dX9_isOnOneDay_1 : decode cX9_isOnOneDay 1 = .ok (.bipush 8, 2) := by decide +kernel
theorem dX9_isOnOneDay_3 : decode cX9_isOnOneDay 3 = .ok (.irem, 1) := by decide +kernel
theorem dX9_isOnOneDay_4 : decode cX9_isOnOneDay 4 = .ok (.iload_n 1, 1) := by decide +kernel
theorem dX9_isOnOneDay_5 : decode cX9_isOnOneDay 5 = .ok (.iadd, 1) := by decide +kernel
theorem dX9_isOnOneDay_6 : decode cX9_isOnOneDay 6 = .ok (.bipush 8, 2) := by decide +kernel
theorem dX9_isOnOneDay_8 : decode cX9_isOnOneDay 8 = .ok (.if_icmp .gt 7, 3) := by decide +kernel
theorem dX9_isOnOneDay_11 : decode cX9_isOnOneDay 11 = .ok (.iconst 1, 1) := by decide +kernel
theorem dX9_isOnOneDay_12 : decode cX9_isOnOneDay 12 = .ok (.goto 4, 3) := by decide +kernel
theorem dX9_isOnOneDay_15 : decode cX9_isOnOneDay 15 = .ok (.iconst 0, 1) := by decide +kernel
theorem dX9_isOnOneDay_16 : decode cX9_isOnOneDay 16 = .ok (.ireturn, 1) := by decide +kernel
set_option maxRecDepth 20000 in
theorem ggX9_canBe_X9_hasMeeting : GoodIn wsX9_canBe wsX9_hasMeeting := goodIn_r _ [5, 6, 7, 8, 9, 10, 4, 11, 12, 13, 14, 15, 16, 17, 43, 44, 45, 46, 47, 48, 49, 50, 51, 52, 53, 54, 55, 56, 57, 58, 59, 60, 61, 62, 63, 64, 65, 66, 67, 68, 69, 70, 71, 72, 73, 74, 75, 76, 77] (by decide +kernel) (by decide +kernel)
set_option maxRecDepth 20000 in
theorem gX9_canBe_X9_hasMeeting : GoodIn wsX9_canBe (wsV RX9 122 RX9 yX9_hasMeeting wsX9_hasMeeting) := goodIn_app (goodIn_of _ (by decide +kernel)) ggX9_canBe_X9_hasMeeting
set_option maxRecDepth 20000 in
theorem ggX9_canBe_X9_isOnLeave : GoodIn wsX9_canBe wsX9_isOnLeave := goodIn_r _ [21, 22, 43, 44, 45, 46, 47, 48, 49, 50, 51, 52, 53, 54, 55, 56, 57, 58, 59, 60, 61, 62, 63, 64, 65, 66, 67, 68, 69, 70, 71, 72, 73, 74, 75, 76, 77] (by decide +kernel) (by decide +kernel)
set_option maxRecDepth 20000 in
theorem gX9_canBe_X9_isOnLeave : GoodIn wsX9_canBe (wsV RX9 125 RX9 yX9_isOnLeave wsX9_isOnLeave) := goodIn_app (goodIn_of _ (by decide +kernel)) ggX9_canBe_X9_isOnLeave
set_option maxRecDepth 20000 in
theorem ggX9_canBe_X9_isPromised : GoodIn wsX9_canBe wsX9_isPromised := goodIn_r _ [26, 6, 27, 8, 9, 10, 4, 11, 12, 13, 14, 15, 16, 17, 43, 44, 45, 46, 47, 48, 49, 50, 51, 52, 53, 54, 55, 56, 57, 58, 59, 60, 61, 62, 63, 64, 65, 66, 67, 68, 69, 70, 71, 72, 73, 74, 75, 76, 77] (by decide +kernel) (by decide +kernel)
set_option maxRecDepth 20000 in
theorem gX9_canBe_X9_isPromised : GoodIn wsX9_canBe (wsV RX9 128 RX9 yX9_isPromised wsX9_isPromised) := goodIn_app (goodIn_of _ (by decide +kernel)) ggX9_canBe_X9_isPromised
set_option maxRecDepth 20000 in
theorem ggX9_canBe_X9_isBuilding : GoodIn wsX9_canBe wsX9_isBuilding := goodIn_r _ [31, 32, 33, 34, 35, 36, 15, 16, 4, 17, 43, 44, 45, 46, 47, 48, 49, 50, 51, 52, 53, 54, 55, 56, 57, 58, 59, 60, 61, 62, 63, 64, 65, 66, 67, 68, 69, 70, 71, 72, 73, 74, 75, 76, 77] (by decide +kernel) (by decide +kernel)
set_option maxRecDepth 20000 in
theorem gX9_canBe_X9_isBuilding : GoodIn wsX9_canBe (wsV RX9 131 RX9 yX9_isBuilding wsX9_isBuilding) := goodIn_app (goodIn_of _ (by decide +kernel)) ggX9_canBe_X9_isBuilding
set_option maxRecDepth 20000 in
theorem ggX9_canBe_X9_isBroken : GoodIn wsX9_canBe wsX9_isBroken := goodIn_r _ [40, 41, 42, 15, 16, 4, 17, 43, 44, 45, 46, 47, 48, 49, 50, 51, 52, 53, 54, 55, 56, 57, 58, 59, 60, 61, 62, 63, 64, 65, 66, 67, 68, 69, 70, 71, 72, 73, 74, 75, 76, 77] (by decide +kernel) (by decide +kernel)
set_option maxRecDepth 20000 in
theorem gX9_canBe_X9_isBroken : GoodIn wsX9_canBe (wsV RX9 134 RX9 yX9_isBroken wsX9_isBroken) := goodIn_app (goodIn_of _ (by decide +kernel)) ggX9_canBe_X9_isBroken
theorem dX9_canBe_0 : decode cX9_canBe 0 = .ok (.iconst 1, 1) := by decide +kernel
theorem dX9_canBe_1 : decode cX9_canBe 1 = .ok (.istore 6, 2) := by decide +kernel
theorem dX9_canBe_3 : decode cX9_canBe 3 = .ok (.iload_n 3, 1) := by decide +kernel
theorem dX9_canBe_4 : decode cX9_canBe 4 = .ok (.istore 7, 2) := by decide +kernel
theorem dX9_canBe_6 : decode cX9_canBe 6 = .ok (.iload 7, 2) := by decide +kernel
theorem dX9_canBe_8 : decode cX9_canBe 8 = .ok (.iload_n 3, 1) := by decide +kernel
theorem dX9_canBe_9 : decode cX9_canBe 9 = .ok (.iload 4, 2) := by decide +kernel
theorem dX9_canBe_11 : decode cX9_canBe 11 = .ok (.iadd, 1) := by decide +kernel
theorem dX9_canBe_12 : decode cX9_canBe 12 = .ok (.if_icmp .ge 121, 3) := by decide +kernel
theorem dX9_canBe_15 : decode cX9_canBe 15 = .ok (.iconst 0, 1) := by decide +kernel
theorem dX9_canBe_16 : decode cX9_canBe 16 = .ok (.istore 8, 2) := by decide +kernel
theorem dX9_canBe_18 : decode cX9_canBe 18 = .ok (.iload 8, 2) := by decide +kernel
theorem dX9_canBe_20 : decode cX9_canBe 20 = .ok (.bipush 10, 2) := by decide +kernel
theorem dX9_canBe_22 : decode cX9_canBe 22 = .ok (.if_icmp .ge 53, 3) := by decide +kernel
theorem dX9_canBe_25 : decode cX9_canBe 25 = .ok (.iload 6, 2) := by decide +kernel
theorem dX9_canBe_27 : decode cX9_canBe 27 = .ok (.ifCond .eq 39, 3) := by decide +kernel
theorem dX9_canBe_30 : decode cX9_canBe 30 = .ok (.iload_n 2, 1) := by decide +kernel
theorem dX9_canBe_31 : decode cX9_canBe 31 = .ok (.iload 8, 2) := by decide +kernel
theorem dX9_canBe_33 : decode cX9_canBe 33 = .ok (.ishr, 1) := by decide +kernel
theorem dX9_canBe_34 : decode cX9_canBe 34 = .ok (.iconst 1, 1) := by decide +kernel
theorem dX9_canBe_35 : decode cX9_canBe 35 = .ok (.iand, 1) := by decide +kernel
theorem dX9_canBe_36 : decode cX9_canBe 36 = .ok (.ifCond .eq 26, 3) := by decide +kernel
theorem dX9_canBe_39 : decode cX9_canBe 39 = .ok (.aload_n 0, 1) := by decide +kernel
theorem dX9_canBe_40 : decode cX9_canBe 40 = .ok (.iload 8, 2) := by decide +kernel
theorem dX9_canBe_42 : decode cX9_canBe 42 = .ok (.iload 7, 2) := by decide +kernel
theorem dX9_canBe_44 : decode cX9_canBe 44 = .ok (.iload_n 1, 1) := by decide +kernel
theorem dX9_canBe_45 : decode cX9_canBe 45 = .ok (.invokevirtual 122, 3) := by decide +kernel
theorem dX9_canBe_48 : decode cX9_canBe 48 = .ok (.ifCond .ne 18, 3) := by decide +kernel
theorem dX9_canBe_51 : decode cX9_canBe 51 = .ok (.aload_n 0, 1) := by decide +kernel
theorem dX9_canBe_52 : decode cX9_canBe 52 = .ok (.iload 8, 2) := by decide +kernel
theorem dX9_canBe_54 : decode cX9_canBe 54 = .ok (.iload 7, 2) := by decide +kernel
theorem dX9_canBe_56 : decode cX9_canBe 56 = .ok (.invokevirtual 125, 3) := by decide +kernel
theorem dX9_canBe_59 : decode cX9_canBe 59 = .ok (.ifCond .ne 7, 3) := by decide +kernel
theorem dX9_canBe_62 : decode cX9_canBe 62 = .ok (.iconst 1, 1) := by decide +kernel
theorem dX9_canBe_63 : decode cX9_canBe 63 = .ok (.goto 4, 3) := by decide +kernel
theorem dX9_canBe_66 : decode cX9_canBe 66 = .ok (.iconst 0, 1) := by decide +kernel
theorem dX9_canBe_67 : decode cX9_canBe 67 = .ok (.istore 6, 2) := by decide +kernel
theorem dX9_canBe_69 : decode cX9_canBe 69 = .ok (.iinc 8 1, 3) := by decide +kernel
theorem dX9_canBe_72 : decode cX9_canBe 72 = .ok (.goto (-54), 3) := by decide +kernel
theorem dX9_canBe_75 : decode cX9_canBe 75 = .ok (.iload 6, 2) := by decide +kernel
theorem dX9_canBe_77 : decode cX9_canBe 77 = .ok (.ifCond .eq 47, 3) := by decide +kernel
theorem dX9_canBe_80 : decode cX9_canBe 80 = .ok (.iload 5, 2) := by decide +kernel
theorem dX9_canBe_82 : decode cX9_canBe 82 = .ok (.iconst (-1), 1) := by decide +kernel
theorem dX9_canBe_83 : decode cX9_canBe 83 = .ok (.if_icmp .eq 37, 3) := by decide +kernel
theorem dX9_canBe_86 : decode cX9_canBe 86 = .ok (.aload_n 0, 1) := by decide +kernel
theorem dX9_canBe_87 : decode cX9_canBe 87 = .ok (.iload 5, 2) := by decide +kernel
theorem dX9_canBe_89 : decode cX9_canBe 89 = .ok (.iload 7, 2) := by decide +kernel
theorem dX9_canBe_91 : decode cX9_canBe 91 = .ok (.iload_n 1, 1) := by decide +kernel
theorem dX9_canBe_92 : decode cX9_canBe 92 = .ok (.invokevirtual 128, 3) := by decide +kernel
theorem dX9_canBe_95 : decode cX9_canBe 95 = .ok (.ifCond .ne 29, 3) := by decide +kernel
theorem dX9_canBe_98 : decode cX9_canBe 98 = .ok (.aload_n 0, 1) := by decide +kernel
theorem dX9_canBe_99 : decode cX9_canBe 99 = .ok (.iload 5, 2) := by decide +kernel
theorem dX9_canBe_101 : decode cX9_canBe 101 = .ok (.iload 7, 2) := by decide +kernel
theorem dX9_canBe_103 : decode cX9_canBe 103 = .ok (.invokevirtual 131, 3) := by decide +kernel
theorem dX9_canBe_106 : decode cX9_canBe 106 = .ok (.ifCond .ne 18, 3) := by decide +kernel
theorem dX9_canBe_109 : decode cX9_canBe 109 = .ok (.aload_n 0, 1) := by decide +kernel
theorem dX9_canBe_110 : decode cX9_canBe 110 = .ok (.iload 5, 2) := by decide +kernel
theorem dX9_canBe_112 : decode cX9_canBe 112 = .ok (.iload 7, 2) := by decide +kernel
theorem dX9_canBe_114 : decode cX9_canBe 114 = .ok (.invokevirtual 134, 3) := by decide +kernel
theorem dX9_canBe_117 : decode cX9_canBe 117 = .ok (.ifCond .ne 7, 3) := by decide +kernel
theorem dX9_canBe_120 : decode cX9_canBe 120 = .ok (.iconst 1, 1) := by decide +kernel
theorem dX9_canBe_121 : decode cX9_canBe 121 = .ok (.goto 4, 3) := by decide +kernel
theorem dX9_canBe_124 : decode cX9_canBe 124 = .ok (.iconst 0, 1) := by decide +kernel
theorem dX9_canBe_125 : decode cX9_canBe 125 = .ok (.istore 6, 2) := by decide +kernel
theorem dX9_canBe_127 : decode cX9_canBe 127 = .ok (.iinc 7 1, 3) := by decide +kernel
theorem dX9_canBe_130 : decode cX9_canBe 130 = .ok (.goto (-124), 3) := by decide +kernel
theorem dX9_canBe_133 : decode cX9_canBe 133 = .ok (.iload 6, 2) := by decide +kernel
theorem dX9_canBe_135 : decode cX9_canBe 135 = .ok (.ireturn, 1) := by decide +kernel
set_option maxRecDepth 20000 in
theorem ggX9_machine_X9_isPerson : GoodIn wsX9_machine wsX9_isPerson := goodIn_r _ [9, 10, 11, 8, 12] (by decide +kernel) (by decide +kernel)
set_option maxRecDepth 20000 in
theorem gX9_machine_X9_isPerson : GoodIn wsX9_machine (va_wsS RX9 137 yX9_isPerson wsX9_isPerson) := goodIn_app (goodIn_of _ (by decide +kernel)) ggX9_machine_X9_isPerson
set_option maxRecDepth 20000 in
theorem ggX9_machine_X9_in : GoodIn wsX9_machine wsX9_in := goodIn_r _ [12] (by decide +kernel) (by decide +kernel)
set_option maxRecDepth 20000 in
theorem gX9_machine_X9_in : GoodIn wsX9_machine (va_wsS RX9 99 yX9_in wsX9_in) := goodIn_app (goodIn_of _ (by decide +kernel)) ggX9_machine_X9_in
set_option maxRecDepth 20000 in
theorem ggX9_machine_X9_refused : GoodIn wsX9_machine wsX9_refused := goodIn_r _ [16, 17, 18, 19, 20, 21, 22, 23, 24, 25, 26, 27, 28, 29, 30, 31, 32, 33, 34, 35, 36, 37, 38, 39, 40, 41, 42, 43, 44, 45, 46, 47, 48, 49, 50, 51, 52] (by decide +kernel) (by decide +kernel)
set_option maxRecDepth 20000 in
theorem gX9_machine_X9_refused : GoodIn wsX9_machine (wsV RX9 141 RX9 yX9_refused wsX9_refused) := goodIn_app (goodIn_of _ (by decide +kernel)) ggX9_machine_X9_refused
theorem dX9_machine_0 : decode cX9_machine 0 = .ok (.aload_n 0, 1) := by decide +kernel
theorem dX9_machine_1 : decode cX9_machine 1 = .ok (.iload_n 2, 1) := by decide +kernel
theorem dX9_machine_2 : decode cX9_machine 2 = .ok (.invokestatic 137, 3) := by decide +kernel
theorem dX9_machine_5 : decode cX9_machine 5 = .ok (.ifCond .ne 7, 3) := by decide +kernel
theorem dX9_machine_8 : decode cX9_machine 8 = .ok (.iconst 1, 1) := by decide +kernel
theorem dX9_machine_9 : decode cX9_machine 9 = .ok (.goto 31, 3) := by decide +kernel
theorem dX9_machine_12 : decode cX9_machine 12 = .ok (.iload_n 1, 1) := by decide +kernel
theorem dX9_machine_13 : decode cX9_machine 13 = .ok (.iconst 0, 1) := by decide +kernel
theorem dX9_machine_14 : decode cX9_machine 14 = .ok (.bipush 15, 2) := by decide +kernel
theorem dX9_machine_16 : decode cX9_machine 16 = .ok (.invokestatic 99, 3) := by decide +kernel
theorem dX9_machine_19 : decode cX9_machine 19 = .ok (.ifCond .ne 7, 3) := by decide +kernel
theorem dX9_machine_22 : decode cX9_machine 22 = .ok (.iconst 2, 1) := by decide +kernel
theorem dX9_machine_23 : decode cX9_machine 23 = .ok (.goto 17, 3) := by decide +kernel
theorem dX9_machine_26 : decode cX9_machine 26 = .ok (.aload_n 0, 1) := by decide +kernel
theorem dX9_machine_27 : decode cX9_machine 27 = .ok (.getfield 103, 3) := by decide +kernel
theorem dX9_machine_30 : decode cX9_machine 30 = .ok (.bipush 6, 2) := by decide +kernel
theorem dX9_machine_32 : decode cX9_machine 32 = .ok (.if_icmp .ne 7, 3) := by decide +kernel
theorem dX9_machine_35 : decode cX9_machine 35 = .ok (.iconst 3, 1) := by decide +kernel
theorem dX9_machine_36 : decode cX9_machine 36 = .ok (.goto 4, 3) := by decide +kernel
theorem dX9_machine_39 : decode cX9_machine 39 = .ok (.iconst 0, 1) := by decide +kernel
theorem dX9_machine_40 : decode cX9_machine 40 = .ok (.invokevirtual 141, 3) := by decide +kernel
theorem dX9_machine_43 : decode cX9_machine 43 = .ok (.ifCond .eq 5, 3) := by decide +kernel
theorem dX9_machine_46 : decode cX9_machine 46 = .ok (.iconst 0, 1) := by decide +kernel
theorem dX9_machine_47 : decode cX9_machine 47 = .ok (.ireturn, 1) := by decide +kernel
theorem dX9_machine_48 : decode cX9_machine 48 = .ok (.aload_n 0, 1) := by decide +kernel
theorem dX9_machine_49 : decode cX9_machine 49 = .ok (.getfield 13, 3) := by decide +kernel
theorem dX9_machine_52 : decode cX9_machine 52 = .ok (.aload_n 0, 1) := by decide +kernel
theorem dX9_machine_53 : decode cX9_machine 53 = .ok (.getfield 103, 3) := by decide +kernel
theorem dX9_machine_56 : decode cX9_machine 56 = .ok (.iload_n 1, 1) := by decide +kernel
theorem dX9_machine_57 : decode cX9_machine 57 = .ok (.iastore, 1) := by decide +kernel
theorem dX9_machine_58 : decode cX9_machine 58 = .ok (.aload_n 0, 1) := by decide +kernel
theorem dX9_machine_59 : decode cX9_machine 59 = .ok (.getfield 17, 3) := by decide +kernel
theorem dX9_machine_62 : decode cX9_machine 62 = .ok (.aload_n 0, 1) := by decide +kernel
theorem dX9_machine_63 : decode cX9_machine 63 = .ok (.getfield 103, 3) := by decide +kernel
theorem dX9_machine_66 : decode cX9_machine 66 = .ok (.iload_n 2, 1) := by decide +kernel
theorem dX9_machine_67 : decode cX9_machine 67 = .ok (.iastore, 1) := by decide +kernel
theorem dX9_machine_68 : decode cX9_machine 68 = .ok (.aload_n 0, 1) := by decide +kernel
theorem dX9_machine_69 : decode cX9_machine 69 = .ok (.getfield 20, 3) := by decide +kernel
theorem dX9_machine_72 : decode cX9_machine 72 = .ok (.aload_n 0, 1) := by decide +kernel
theorem dX9_machine_73 : decode cX9_machine 73 = .ok (.getfield 103, 3) := by decide +kernel
theorem dX9_machine_76 : decode cX9_machine 76 = .ok (.iconst 0, 1) := by decide +kernel
theorem dX9_machine_77 : decode cX9_machine 77 = .ok (.iastore, 1) := by decide +kernel
theorem dX9_machine_78 : decode cX9_machine 78 = .ok (.aload_n 0, 1) := by decide +kernel
theorem dX9_machine_79 : decode cX9_machine 79 = .ok (.getfield 23, 3) := by decide +kernel
theorem dX9_machine_82 : decode cX9_machine 82 = .ok (.aload_n 0, 1) := by decide +kernel
theorem dX9_machine_83 : decode cX9_machine 83 = .ok (.getfield 103, 3) := by decide +kernel
theorem dX9_machine_86 : decode cX9_machine 86 = .ok (.iconst (-1), 1) := by decide +kernel
theorem dX9_machine_87 : decode cX9_machine 87 = .ok (.iastore, 1) := by decide +kernel
theorem dX9_machine_88 : decode cX9_machine 88 = .ok (.aload_n 0, 1) := by decide +kernel
theorem dX9_machine_89 : decode cX9_machine 89 = .ok (.dup, 1) := by decide +kernel
theorem dX9_machine_90 : decode cX9_machine 90 = .ok (.getfield 103, 3) := by decide +kernel
theorem dX9_machine_93 : decode cX9_machine 93 = .ok (.iconst 1, 1) := by decide +kernel
theorem dX9_machine_94 : decode cX9_machine 94 = .ok (.iadd, 1) := by decide +kernel
theorem dX9_machine_95 : decode cX9_machine 95 = .ok (.putfield 103, 3) := by decide +kernel
theorem dX9_machine_98 : decode cX9_machine 98 = .ok (.aload_n 0, 1) := by decide +kernel
theorem dX9_machine_99 : decode cX9_machine 99 = .ok (.getfield 103, 3) := by decide +kernel
theorem dX9_machine_102 : decode cX9_machine 102 = .ok (.iconst 1, 1) := by decide +kernel
theorem dX9_machine_103 : decode cX9_machine 103 = .ok (.isub, 1) := by decide +kernel
theorem dX9_machine_104 : decode cX9_machine 104 = .ok (.ireturn, 1) := by decide +kernel
set_option maxRecDepth 20000 in
theorem ggX9_leave_X9_isPerson : GoodIn wsX9_leave wsX9_isPerson := goodIn_r _ [6, 7, 8, 5, 9] (by decide +kernel) (by decide +kernel)
set_option maxRecDepth 20000 in
theorem gX9_leave_X9_isPerson : GoodIn wsX9_leave (va_wsS RX9 137 yX9_isPerson wsX9_isPerson) := goodIn_app (goodIn_of _ (by decide +kernel)) ggX9_leave_X9_isPerson
set_option maxRecDepth 20000 in
theorem ggX9_leave_X9_in : GoodIn wsX9_leave wsX9_in := goodIn_r _ [9] (by decide +kernel) (by decide +kernel)
set_option maxRecDepth 20000 in
theorem gX9_leave_X9_in : GoodIn wsX9_leave (va_wsS RX9 99 yX9_in wsX9_in) := goodIn_app (goodIn_of _ (by decide +kernel)) ggX9_leave_X9_in
set_option maxRecDepth 20000 in
theorem ggX9_leave_X9_hasMeeting : GoodIn wsX9_leave wsX9_hasMeeting := goodIn_r _ [13, 14, 15, 16, 17, 18, 5, 19, 20, 21, 22, 7, 8, 9, 28, 29, 30, 31, 32, 33, 34, 35, 36, 37, 38, 39, 40, 41, 42, 43, 44, 45, 46, 47, 48, 49, 50, 51, 52, 53, 54, 55, 56, 57, 58, 59, 60, 61, 62] (by decide +kernel) (by decide +kernel)
set_option maxRecDepth 20000 in
theorem gX9_leave_X9_hasMeeting : GoodIn wsX9_leave (wsV RX9 122 RX9 yX9_hasMeeting wsX9_hasMeeting) := goodIn_app (goodIn_of _ (by decide +kernel)) ggX9_leave_X9_hasMeeting
set_option maxRecDepth 20000 in
theorem ggX9_leave_X9_refused : GoodIn wsX9_leave wsX9_refused := goodIn_r _ [26, 27, 28, 29, 30, 31, 32, 33, 34, 35, 36, 37, 38, 39, 40, 41, 42, 43, 44, 45, 46, 47, 48, 49, 50, 51, 52, 53, 54, 55, 56, 57, 58, 59, 60, 61, 62] (by decide +kernel) (by decide +kernel)
set_option maxRecDepth 20000 in
theorem gX9_leave_X9_refused : GoodIn wsX9_leave (wsV RX9 141 RX9 yX9_refused wsX9_refused) := goodIn_app (goodIn_of _ (by decide +kernel)) ggX9_leave_X9_refused
theorem dX9_leave_0 : decode cX9_leave 0 = .ok (.iload_n 1, 1) := by decide +kernel
theorem dX9_leave_1 : decode cX9_leave 1 = .ok (.invokestatic 137, 3) := by decide +kernel
theorem dX9_leave_4 : decode cX9_leave 4 = .ok (.istore 4, 2) := by decide +kernel
theorem dX9_leave_6 : decode cX9_leave 6 = .ok (.iload_n 2, 1) := by decide +kernel
theorem dX9_leave_7 : decode cX9_leave 7 = .ok (.aload_n 0, 1) := by decide +kernel
theorem dX9_leave_8 : decode cX9_leave 8 = .ok (.getfield 144, 3) := by decide +kernel
theorem dX9_leave_11 : decode cX9_leave 11 = .ok (.bipush 8, 2) := by decide +kernel
theorem dX9_leave_13 : decode cX9_leave 13 = .ok (.idiv, 1) := by decide +kernel
theorem dX9_leave_14 : decode cX9_leave 14 = .ok (.bipush 49, 2) := by decide +kernel
theorem dX9_leave_16 : decode cX9_leave 16 = .ok (.invokestatic 99, 3) := by decide +kernel
theorem dX9_leave_19 : decode cX9_leave 19 = .ok (.ifCond .eq 17, 3) := by decide +kernel
theorem dX9_leave_22 : decode cX9_leave 22 = .ok (.iload_n 3, 1) := by decide +kernel
theorem dX9_leave_23 : decode cX9_leave 23 = .ok (.iload_n 2, 1) := by decide +kernel
theorem dX9_leave_24 : decode cX9_leave 24 = .ok (.bipush 49, 2) := by decide +kernel
theorem dX9_leave_26 : decode cX9_leave 26 = .ok (.invokestatic 99, 3) := by decide +kernel
theorem dX9_leave_29 : decode cX9_leave 29 = .ok (.ifCond .eq 7, 3) := by decide +kernel
theorem dX9_leave_32 : decode cX9_leave 32 = .ok (.iconst 1, 1) := by decide +kernel
theorem dX9_leave_33 : decode cX9_leave 33 = .ok (.goto 4, 3) := by decide +kernel
theorem dX9_leave_36 : decode cX9_leave 36 = .ok (.iconst 0, 1) := by decide +kernel
theorem dX9_leave_37 : decode cX9_leave 37 = .ok (.istore 5, 2) := by decide +kernel
theorem dX9_leave_39 : decode cX9_leave 39 = .ok (.iconst 0, 1) := by decide +kernel
theorem dX9_leave_40 : decode cX9_leave 40 = .ok (.istore 6, 2) := by decide +kernel
theorem dX9_leave_42 : decode cX9_leave 42 = .ok (.iload_n 2, 1) := by decide +kernel
theorem dX9_leave_43 : decode cX9_leave 43 = .ok (.bipush 8, 2) := by decide +kernel
theorem dX9_leave_45 : decode cX9_leave 45 = .ok (.imul, 1) := by decide +kernel
theorem dX9_leave_46 : decode cX9_leave 46 = .ok (.istore 7, 2) := by decide +kernel
theorem dX9_leave_48 : decode cX9_leave 48 = .ok (.iload 4, 2) := by decide +kernel
theorem dX9_leave_50 : decode cX9_leave 50 = .ok (.ifCond .eq 48, 3) := by decide +kernel
theorem dX9_leave_53 : decode cX9_leave 53 = .ok (.iload 5, 2) := by decide +kernel
theorem dX9_leave_55 : decode cX9_leave 55 = .ok (.ifCond .eq 43, 3) := by decide +kernel
theorem dX9_leave_58 : decode cX9_leave 58 = .ok (.iload 7, 2) := by decide +kernel
theorem dX9_leave_60 : decode cX9_leave 60 = .ok (.iload_n 3, 1) := by decide +kernel
theorem dX9_leave_61 : decode cX9_leave 61 = .ok (.iconst 1, 1) := by decide +kernel
theorem dX9_leave_62 : decode cX9_leave 62 = .ok (.iadd, 1) := by decide +kernel
theorem dX9_leave_63 : decode cX9_leave 63 = .ok (.bipush 8, 2) := by decide +kernel
theorem dX9_leave_65 : decode cX9_leave 65 = .ok (.imul, 1) := by decide +kernel
theorem dX9_leave_66 : decode cX9_leave 66 = .ok (.if_icmp .ge 32, 3) := by decide +kernel
theorem dX9_leave_69 : decode cX9_leave 69 = .ok (.iload 6, 2) := by decide +kernel
theorem dX9_leave_71 : decode cX9_leave 71 = .ok (.ifCond .ne 14, 3) := by decide +kernel
theorem dX9_leave_74 : decode cX9_leave 74 = .ok (.aload_n 0, 1) := by decide +kernel
theorem dX9_leave_75 : decode cX9_leave 75 = .ok (.iload_n 1, 1) := by decide +kernel
theorem dX9_leave_76 : decode cX9_leave 76 = .ok (.iload 7, 2) := by decide +kernel
theorem dX9_leave_78 : decode cX9_leave 78 = .ok (.iconst (-1), 1) := by decide +kernel
theorem dX9_leave_79 : decode cX9_leave 79 = .ok (.invokevirtual 122, 3) := by decide +kernel
theorem dX9_leave_82 : decode cX9_leave 82 = .ok (.ifCond .eq 7, 3) := by decide +kernel
theorem dX9_leave_85 : decode cX9_leave 85 = .ok (.iconst 1, 1) := by decide +kernel
theorem dX9_leave_86 : decode cX9_leave 86 = .ok (.goto 4, 3) := by decide +kernel
theorem dX9_leave_89 : decode cX9_leave 89 = .ok (.iconst 0, 1) := by decide +kernel
theorem dX9_leave_90 : decode cX9_leave 90 = .ok (.istore 6, 2) := by decide +kernel
theorem dX9_leave_92 : decode cX9_leave 92 = .ok (.iinc 7 1, 3) := by decide +kernel
theorem dX9_leave_95 : decode cX9_leave 95 = .ok (.goto (-47), 3) := by decide +kernel
theorem dX9_leave_98 : decode cX9_leave 98 = .ok (.aload_n 0, 1) := by decide +kernel
theorem dX9_leave_99 : decode cX9_leave 99 = .ok (.iload 4, 2) := by decide +kernel
theorem dX9_leave_101 : decode cX9_leave 101 = .ok (.ifCond .ne 7, 3) := by decide +kernel
theorem dX9_leave_104 : decode cX9_leave 104 = .ok (.iconst 1, 1) := by decide +kernel
theorem dX9_leave_105 : decode cX9_leave 105 = .ok (.goto 22, 3) := by decide +kernel
theorem dX9_leave_108 : decode cX9_leave 108 = .ok (.iload 5, 2) := by decide +kernel
theorem dX9_leave_110 : decode cX9_leave 110 = .ok (.ifCond .ne 7, 3) := by decide +kernel
theorem dX9_leave_113 : decode cX9_leave 113 = .ok (.iconst 2, 1) := by decide +kernel
theorem dX9_leave_114 : decode cX9_leave 114 = .ok (.goto 13, 3) := by decide +kernel
theorem dX9_leave_117 : decode cX9_leave 117 = .ok (.iload 6, 2) := by decide +kernel
theorem dX9_leave_119 : decode cX9_leave 119 = .ok (.ifCond .eq 7, 3) := by decide +kernel
theorem dX9_leave_122 : decode cX9_leave 122 = .ok (.iconst 3, 1) := by decide +kernel
theorem dX9_leave_123 : decode cX9_leave 123 = .ok (.goto 4, 3) := by decide +kernel
theorem dX9_leave_126 : decode cX9_leave 126 = .ok (.iconst 0, 1) := by decide +kernel
theorem dX9_leave_127 : decode cX9_leave 127 = .ok (.invokevirtual 141, 3) := by decide +kernel
theorem dX9_leave_130 : decode cX9_leave 130 = .ok (.ifCond .eq 4, 3) := by decide +kernel
theorem dX9_leave_133 : decode cX9_leave 133 = .ok (.return_, 1) := by decide +kernel
theorem dX9_leave_134 : decode cX9_leave 134 = .ok (.iload_n 2, 1) := by decide +kernel
theorem dX9_leave_135 : decode cX9_leave 135 = .ok (.istore 7, 2) := by decide +kernel
theorem dX9_leave_137 : decode cX9_leave 137 = .ok (.iload 7, 2) := by decide +kernel
theorem dX9_leave_139 : decode cX9_leave 139 = .ok (.iload_n 3, 1) := by decide +kernel
theorem dX9_leave_140 : decode cX9_leave 140 = .ok (.if_icmp .gt 22, 3) := by decide +kernel
theorem dX9_leave_143 : decode cX9_leave 143 = .ok (.aload_n 0, 1) := by decide +kernel
theorem dX9_leave_144 : decode cX9_leave 144 = .ok (.getfield 7, 3) := by decide +kernel
theorem dX9_leave_147 : decode cX9_leave 147 = .ok (.bipush 50, 2) := by decide +kernel
theorem dX9_leave_149 : decode cX9_leave 149 = .ok (.iload_n 1, 1) := by decide +kernel
theorem dX9_leave_150 : decode cX9_leave 150 = .ok (.imul, 1) := by decide +kernel
theorem dX9_leave_151 : decode cX9_leave 151 = .ok (.iload 7, 2) := by decide +kernel
theorem dX9_leave_153 : decode cX9_leave 153 = .ok (.iadd, 1) := by decide +kernel
theorem dX9_leave_154 : decode cX9_leave 154 = .ok (.iconst 1, 1) := by decide +kernel
theorem dX9_leave_155 : decode cX9_leave 155 = .ok (.bastore, 1) := by decide +kernel
theorem dX9_leave_156 : decode cX9_leave 156 = .ok (.iinc 7 1, 3) := by decide +kernel
theorem dX9_leave_159 : decode cX9_leave 159 = .ok (.goto (-22), 3) := by decide +kernel
theorem dX9_leave_162 : decode cX9_leave 162 = .ok (.return_, 1) := by decide +kernel
set_option maxRecDepth 20000 in
theorem ggX9_lend_X9_isMachine : GoodIn wsX9_lend wsX9_isMachine := goodIn_r _ [11, 12, 13, 14, 10, 15, 24, 25, 26, 27, 28, 29, 30, 31, 32, 33, 34, 35, 36, 37, 38, 39, 40, 41, 42, 43, 44, 45, 46, 47, 48, 49, 50, 51, 52, 53, 54, 55, 56, 57, 58] (by decide +kernel) (by decide +kernel)
set_option maxRecDepth 20000 in
theorem gX9_lend_X9_isMachine : GoodIn wsX9_lend (wsV RX9 147 RX9 yX9_isMachine wsX9_isMachine) := goodIn_app (goodIn_of _ (by decide +kernel)) ggX9_lend_X9_isMachine
set_option maxRecDepth 20000 in
theorem ggX9_lend_X9_isPerson : GoodIn wsX9_lend wsX9_isPerson := goodIn_r _ [18, 13, 14, 10, 15] (by decide +kernel) (by decide +kernel)
set_option maxRecDepth 20000 in
theorem gX9_lend_X9_isPerson : GoodIn wsX9_lend (va_wsS RX9 137 yX9_isPerson wsX9_isPerson) := goodIn_app (goodIn_of _ (by decide +kernel)) ggX9_lend_X9_isPerson
set_option maxRecDepth 20000 in
theorem ggX9_lend_X9_in : GoodIn wsX9_lend wsX9_in := goodIn_r _ [15] (by decide +kernel) (by decide +kernel)
set_option maxRecDepth 20000 in
theorem gX9_lend_X9_in : GoodIn wsX9_lend (va_wsS RX9 99 yX9_in wsX9_in) := goodIn_app (goodIn_of _ (by decide +kernel)) ggX9_lend_X9_in
set_option maxRecDepth 20000 in
theorem ggX9_lend_X9_refused : GoodIn wsX9_lend wsX9_refused := goodIn_r _ [22, 23, 24, 25, 26, 27, 28, 29, 30, 31, 32, 33, 34, 35, 36, 37, 38, 39, 40, 41, 42, 43, 44, 45, 46, 47, 48, 49, 50, 51, 52, 53, 54, 55, 56, 57, 58] (by decide +kernel) (by decide +kernel)
set_option maxRecDepth 20000 in
theorem gX9_lend_X9_refused : GoodIn wsX9_lend (wsV RX9 141 RX9 yX9_refused wsX9_refused) := goodIn_app (goodIn_of _ (by decide +kernel)) ggX9_lend_X9_refused
theorem dX9_lend_0 : decode cX9_lend 0 = .ok (.aload_n 0, 1) := by decide +kernel
theorem dX9_lend_1 : decode cX9_lend 1 = .ok (.iload_n 1, 1) := by decide +kernel
theorem dX9_lend_2 : decode cX9_lend 2 = .ok (.invokevirtual 147, 3) := by decide +kernel
theorem dX9_lend_5 : decode cX9_lend 5 = .ok (.ifCond .eq 14, 3) := by decide +kernel
theorem dX9_lend_8 : decode cX9_lend 8 = .ok (.iload_n 2, 1) := by decide +kernel
theorem dX9_lend_9 : decode cX9_lend 9 = .ok (.invokestatic 137, 3) := by decide +kernel
theorem dX9_lend_12 : decode cX9_lend 12 = .ok (.ifCond .eq 7, 3) := by decide +kernel
theorem dX9_lend_15 : decode cX9_lend 15 = .ok (.iconst 1, 1) := by decide +kernel
theorem dX9_lend_16 : decode cX9_lend 16 = .ok (.goto 4, 3) := by decide +kernel
theorem dX9_lend_19 : decode cX9_lend 19 = .ok (.iconst 0, 1) := by decide +kernel
theorem dX9_lend_20 : decode cX9_lend 20 = .ok (.istore 5, 2) := by decide +kernel
theorem dX9_lend_22 : decode cX9_lend 22 = .ok (.iload_n 3, 1) := by decide +kernel
theorem dX9_lend_23 : decode cX9_lend 23 = .ok (.aload_n 0, 1) := by decide +kernel
theorem dX9_lend_24 : decode cX9_lend 24 = .ok (.getfield 144, 3) := by decide +kernel
theorem dX9_lend_27 : decode cX9_lend 27 = .ok (.sipush 399, 3) := by decide +kernel
theorem dX9_lend_30 : decode cX9_lend 30 = .ok (.invokestatic 99, 3) := by decide +kernel
theorem dX9_lend_33 : decode cX9_lend 33 = .ok (.ifCond .eq 19, 3) := by decide +kernel
theorem dX9_lend_36 : decode cX9_lend 36 = .ok (.iload 4, 2) := by decide +kernel
theorem dX9_lend_38 : decode cX9_lend 38 = .ok (.iload_n 3, 1) := by decide +kernel
theorem dX9_lend_39 : decode cX9_lend 39 = .ok (.sipush 399, 3) := by decide +kernel
theorem dX9_lend_42 : decode cX9_lend 42 = .ok (.invokestatic 99, 3) := by decide +kernel
theorem dX9_lend_45 : decode cX9_lend 45 = .ok (.ifCond .eq 7, 3) := by decide +kernel
theorem dX9_lend_48 : decode cX9_lend 48 = .ok (.iconst 1, 1) := by decide +kernel
theorem dX9_lend_49 : decode cX9_lend 49 = .ok (.goto 4, 3) := by decide +kernel
theorem dX9_lend_52 : decode cX9_lend 52 = .ok (.iconst 0, 1) := by decide +kernel
theorem dX9_lend_53 : decode cX9_lend 53 = .ok (.istore 6, 2) := by decide +kernel
theorem dX9_lend_55 : decode cX9_lend 55 = .ok (.aload_n 0, 1) := by decide +kernel
theorem dX9_lend_56 : decode cX9_lend 56 = .ok (.iload 5, 2) := by decide +kernel
theorem dX9_lend_58 : decode cX9_lend 58 = .ok (.ifCond .ne 7, 3) := by decide +kernel
theorem dX9_lend_61 : decode cX9_lend 61 = .ok (.iconst 1, 1) := by decide +kernel
theorem dX9_lend_62 : decode cX9_lend 62 = .ok (.goto 26, 3) := by decide +kernel
theorem dX9_lend_65 : decode cX9_lend 65 = .ok (.iload 6, 2) := by decide +kernel
theorem dX9_lend_67 : decode cX9_lend 67 = .ok (.ifCond .ne 7, 3) := by decide +kernel
theorem dX9_lend_70 : decode cX9_lend 70 = .ok (.iconst 2, 1) := by decide +kernel
theorem dX9_lend_71 : decode cX9_lend 71 = .ok (.goto 17, 3) := by decide +kernel
theorem dX9_lend_74 : decode cX9_lend 74 = .ok (.aload_n 0, 1) := by decide +kernel
theorem dX9_lend_75 : decode cX9_lend 75 = .ok (.getfield 115, 3) := by decide +kernel
theorem dX9_lend_78 : decode cX9_lend 78 = .ok (.bipush 20, 2) := by decide +kernel
theorem dX9_lend_80 : decode cX9_lend 80 = .ok (.if_icmp .ne 7, 3) := by decide +kernel
theorem dX9_lend_83 : decode cX9_lend 83 = .ok (.iconst 3, 1) := by decide +kernel
theorem dX9_lend_84 : decode cX9_lend 84 = .ok (.goto 4, 3) := by decide +kernel
theorem dX9_lend_87 : decode cX9_lend 87 = .ok (.iconst 0, 1) := by decide +kernel
theorem dX9_lend_88 : decode cX9_lend 88 = .ok (.invokevirtual 141, 3) := by decide +kernel
theorem dX9_lend_91 : decode cX9_lend 91 = .ok (.ifCond .eq 4, 3) := by decide +kernel
theorem dX9_lend_94 : decode cX9_lend 94 = .ok (.return_, 1) := by decide +kernel
theorem dX9_lend_95 : decode cX9_lend 95 = .ok (.aload_n 0, 1) := by decide +kernel
theorem dX9_lend_96 : decode cX9_lend 96 = .ok (.getfield 26, 3) := by decide +kernel
theorem dX9_lend_99 : decode cX9_lend 99 = .ok (.aload_n 0, 1) := by decide +kernel
theorem dX9_lend_100 : decode cX9_lend 100 = .ok (.getfield 115, 3) := by decide +kernel
theorem dX9_lend_103 : decode cX9_lend 103 = .ok (.iload_n 1, 1) := by decide +kernel
theorem dX9_lend_104 : decode cX9_lend 104 = .ok (.iastore, 1) := by decide +kernel
theorem dX9_lend_105 : decode cX9_lend 105 = .ok (.aload_n 0, 1) := by decide +kernel
theorem dX9_lend_106 : decode cX9_lend 106 = .ok (.getfield 29, 3) := by decide +kernel
theorem dX9_lend_109 : decode cX9_lend 109 = .ok (.aload_n 0, 1) := by decide +kernel
theorem dX9_lend_110 : decode cX9_lend 110 = .ok (.getfield 115, 3) := by decide +kernel
theorem dX9_lend_113 : decode cX9_lend 113 = .ok (.iload_n 2, 1) := by decide +kernel
theorem dX9_lend_114 : decode cX9_lend 114 = .ok (.iastore, 1) := by decide +kernel
theorem dX9_lend_115 : decode cX9_lend 115 = .ok (.aload_n 0, 1) := by decide +kernel
theorem dX9_lend_116 : decode cX9_lend 116 = .ok (.getfield 32, 3) := by decide +kernel
theorem dX9_lend_119 : decode cX9_lend 119 = .ok (.aload_n 0, 1) := by decide +kernel
theorem dX9_lend_120 : decode cX9_lend 120 = .ok (.getfield 115, 3) := by decide +kernel
theorem dX9_lend_123 : decode cX9_lend 123 = .ok (.iload_n 3, 1) := by decide +kernel
theorem dX9_lend_124 : decode cX9_lend 124 = .ok (.iastore, 1) := by decide +kernel
theorem dX9_lend_125 : decode cX9_lend 125 = .ok (.aload_n 0, 1) := by decide +kernel
theorem dX9_lend_126 : decode cX9_lend 126 = .ok (.getfield 35, 3) := by decide +kernel
theorem dX9_lend_129 : decode cX9_lend 129 = .ok (.aload_n 0, 1) := by decide +kernel
theorem dX9_lend_130 : decode cX9_lend 130 = .ok (.getfield 115, 3) := by decide +kernel
theorem dX9_lend_133 : decode cX9_lend 133 = .ok (.iload 4, 2) := by decide +kernel
theorem dX9_lend_135 : decode cX9_lend 135 = .ok (.iastore, 1) := by decide +kernel
theorem dX9_lend_136 : decode cX9_lend 136 = .ok (.aload_n 0, 1) := by decide +kernel
theorem dX9_lend_137 : decode cX9_lend 137 = .ok (.dup, 1) := by decide +kernel
theorem dX9_lend_138 : decode cX9_lend 138 = .ok (.getfield 115, 3) := by decide +kernel
theorem dX9_lend_141 : decode cX9_lend 141 = .ok (.iconst 1, 1) := by decide +kernel
theorem dX9_lend_142 : decode cX9_lend 142 = .ok (.iadd, 1) := by decide +kernel
theorem dX9_lend_143 : decode cX9_lend 143 = .ok (.putfield 115, 3) := by decide +kernel
theorem dX9_lend_146 : decode cX9_lend 146 = .ok (.return_, 1) := by decide +kernel
set_option maxRecDepth 20000 in
theorem ggX9_breakDown_X9_isMachine : GoodIn wsX9_breakDown wsX9_isMachine := goodIn_r _ [12, 13, 14, 15, 11, 16, 22, 23, 24, 25, 26, 27, 28, 29, 30, 31, 32, 33, 34, 35, 36, 37, 38, 39, 40, 41, 42, 43, 44, 45, 46, 47, 48, 49, 50, 51, 52, 53, 54, 55, 56] (by decide +kernel) (by decide +kernel)
set_option maxRecDepth 20000 in
theorem gX9_breakDown_X9_isMachine : GoodIn wsX9_breakDown (wsV RX9 147 RX9 yX9_isMachine wsX9_isMachine) := goodIn_app (goodIn_of _ (by decide +kernel)) ggX9_breakDown_X9_isMachine
set_option maxRecDepth 20000 in
theorem ggX9_breakDown_X9_in : GoodIn wsX9_breakDown wsX9_in := goodIn_r _ [16] (by decide +kernel) (by decide +kernel)
set_option maxRecDepth 20000 in
theorem gX9_breakDown_X9_in : GoodIn wsX9_breakDown (va_wsS RX9 99 yX9_in wsX9_in) := goodIn_app (goodIn_of _ (by decide +kernel)) ggX9_breakDown_X9_in
set_option maxRecDepth 20000 in
theorem ggX9_breakDown_X9_refused : GoodIn wsX9_breakDown wsX9_refused := goodIn_r _ [20, 21, 22, 23, 24, 25, 26, 27, 28, 29, 30, 31, 32, 33, 34, 35, 36, 37, 38, 39, 40, 41, 42, 43, 44, 45, 46, 47, 48, 49, 50, 51, 52, 53, 54, 55, 56] (by decide +kernel) (by decide +kernel)
set_option maxRecDepth 20000 in
theorem gX9_breakDown_X9_refused : GoodIn wsX9_breakDown (wsV RX9 141 RX9 yX9_refused wsX9_refused) := goodIn_app (goodIn_of _ (by decide +kernel)) ggX9_breakDown_X9_refused
theorem dX9_breakDown_0 : decode cX9_breakDown 0 = .ok (.aload_n 0, 1) := by decide +kernel
theorem dX9_breakDown_1 : decode cX9_breakDown 1 = .ok (.aload_n 0, 1) := by decide +kernel
theorem dX9_breakDown_2 : decode cX9_breakDown 2 = .ok (.iload_n 1, 1) := by decide +kernel
theorem dX9_breakDown_3 : decode cX9_breakDown 3 = .ok (.invokevirtual 147, 3) := by decide +kernel
theorem dX9_breakDown_6 : decode cX9_breakDown 6 = .ok (.ifCond .ne 7, 3) := by decide +kernel
theorem dX9_breakDown_9 : decode cX9_breakDown 9 = .ok (.iconst 1, 1) := by decide +kernel
theorem dX9_breakDown_10 : decode cX9_breakDown 10 = .ok (.goto 18, 3) := by decide +kernel
theorem dX9_breakDown_13 : decode cX9_breakDown 13 = .ok (.iload_n 2, 1) := by decide +kernel
theorem dX9_breakDown_14 : decode cX9_breakDown 14 = .ok (.iconst 0, 1) := by decide +kernel
theorem dX9_breakDown_15 : decode cX9_breakDown 15 = .ok (.bipush 40, 2) := by decide +kernel
theorem dX9_breakDown_17 : decode cX9_breakDown 17 = .ok (.invokestatic 99, 3) := by decide +kernel
theorem dX9_breakDown_20 : decode cX9_breakDown 20 = .ok (.ifCond .ne 7, 3) := by decide +kernel
theorem dX9_breakDown_23 : decode cX9_breakDown 23 = .ok (.iconst 2, 1) := by decide +kernel
theorem dX9_breakDown_24 : decode cX9_breakDown 24 = .ok (.goto 4, 3) := by decide +kernel
theorem dX9_breakDown_27 : decode cX9_breakDown 27 = .ok (.iconst 0, 1) := by decide +kernel
theorem dX9_breakDown_28 : decode cX9_breakDown 28 = .ok (.invokevirtual 141, 3) := by decide +kernel
theorem dX9_breakDown_31 : decode cX9_breakDown 31 = .ok (.ifCond .eq 5, 3) := by decide +kernel
theorem dX9_breakDown_34 : decode cX9_breakDown 34 = .ok (.iconst 0, 1) := by decide +kernel
theorem dX9_breakDown_35 : decode cX9_breakDown 35 = .ok (.ireturn, 1) := by decide +kernel
theorem dX9_breakDown_36 : decode cX9_breakDown 36 = .ok (.aload_n 0, 1) := by decide +kernel
theorem dX9_breakDown_37 : decode cX9_breakDown 37 = .ok (.getfield 20, 3) := by decide +kernel
theorem dX9_breakDown_40 : decode cX9_breakDown 40 = .ok (.iload_n 1, 1) := by decide +kernel
theorem dX9_breakDown_41 : decode cX9_breakDown 41 = .ok (.aload_n 0, 1) := by decide +kernel
theorem dX9_breakDown_42 : decode cX9_breakDown 42 = .ok (.getfield 144, 3) := by decide +kernel
theorem dX9_breakDown_45 : decode cX9_breakDown 45 = .ok (.iastore, 1) := by decide +kernel
theorem dX9_breakDown_46 : decode cX9_breakDown 46 = .ok (.aload_n 0, 1) := by decide +kernel
theorem dX9_breakDown_47 : decode cX9_breakDown 47 = .ok (.getfield 23, 3) := by decide +kernel
theorem dX9_breakDown_50 : decode cX9_breakDown 50 = .ok (.iload_n 1, 1) := by decide +kernel
theorem dX9_breakDown_51 : decode cX9_breakDown 51 = .ok (.aload_n 0, 1) := by decide +kernel
theorem dX9_breakDown_52 : decode cX9_breakDown 52 = .ok (.getfield 144, 3) := by decide +kernel
theorem dX9_breakDown_55 : decode cX9_breakDown 55 = .ok (.iload_n 2, 1) := by decide +kernel
theorem dX9_breakDown_56 : decode cX9_breakDown 56 = .ok (.iadd, 1) := by decide +kernel
theorem dX9_breakDown_57 : decode cX9_breakDown 57 = .ok (.iconst 1, 1) := by decide +kernel
theorem dX9_breakDown_58 : decode cX9_breakDown 58 = .ok (.isub, 1) := by decide +kernel
theorem dX9_breakDown_59 : decode cX9_breakDown 59 = .ok (.iastore, 1) := by decide +kernel
theorem dX9_breakDown_60 : decode cX9_breakDown 60 = .ok (.iconst (-1), 1) := by decide +kernel
theorem dX9_breakDown_61 : decode cX9_breakDown 61 = .ok (.istore_n 3, 1) := by decide +kernel
theorem dX9_breakDown_62 : decode cX9_breakDown 62 = .ok (.iconst 0, 1) := by decide +kernel
theorem dX9_breakDown_63 : decode cX9_breakDown 63 = .ok (.istore 4, 2) := by decide +kernel
theorem dX9_breakDown_65 : decode cX9_breakDown 65 = .ok (.iload 4, 2) := by decide +kernel
theorem dX9_breakDown_67 : decode cX9_breakDown 67 = .ok (.aload_n 0, 1) := by decide +kernel
theorem dX9_breakDown_68 : decode cX9_breakDown 68 = .ok (.getfield 112, 3) := by decide +kernel
theorem dX9_breakDown_71 : decode cX9_breakDown 71 = .ok (.if_icmp .ge 42, 3) := by decide +kernel
theorem dX9_breakDown_74 : decode cX9_breakDown 74 = .ok (.iload_n 2, 1) := by decide +kernel
theorem dX9_breakDown_75 : decode cX9_breakDown 75 = .ok (.ifCond .le 38, 3) := by decide +kernel
theorem dX9_breakDown_78 : decode cX9_breakDown 78 = .ok (.aload_n 0, 1) := by decide +kernel
theorem dX9_breakDown_79 : decode cX9_breakDown 79 = .ok (.getfield 74, 3) := by decide +kernel
theorem dX9_breakDown_82 : decode cX9_breakDown 82 = .ok (.iload 4, 2) := by decide +kernel
theorem dX9_breakDown_84 : decode cX9_breakDown 84 = .ok (.iaload, 1) := by decide +kernel
theorem dX9_breakDown_85 : decode cX9_breakDown 85 = .ok (.iconst 1, 1) := by decide +kernel
theorem dX9_breakDown_86 : decode cX9_breakDown 86 = .ok (.if_icmp .ne 19, 3) := by decide +kernel
theorem dX9_breakDown_89 : decode cX9_breakDown 89 = .ok (.aload_n 0, 1) := by decide +kernel
theorem dX9_breakDown_90 : decode cX9_breakDown 90 = .ok (.getfield 86, 3) := by decide +kernel
theorem dX9_breakDown_93 : decode cX9_breakDown 93 = .ok (.iload 4, 2) := by decide +kernel
theorem dX9_breakDown_95 : decode cX9_breakDown 95 = .ok (.iaload, 1) := by decide +kernel
theorem dX9_breakDown_96 : decode cX9_breakDown 96 = .ok (.iload_n 1, 1) := by decide +kernel
theorem dX9_breakDown_97 : decode cX9_breakDown 97 = .ok (.if_icmp .ne 8, 3) := by decide +kernel
theorem dX9_breakDown_100 : decode cX9_breakDown 100 = .ok (.iload 4, 2) := by decide +kernel
theorem dX9_breakDown_102 : decode cX9_breakDown 102 = .ok (.goto 4, 3) := by decide +kernel
theorem dX9_breakDown_105 : decode cX9_breakDown 105 = .ok (.iload_n 3, 1) := by decide +kernel
theorem dX9_breakDown_106 : decode cX9_breakDown 106 = .ok (.istore_n 3, 1) := by decide +kernel
theorem dX9_breakDown_107 : decode cX9_breakDown 107 = .ok (.iinc 4 1, 3) := by decide +kernel
theorem dX9_breakDown_110 : decode cX9_breakDown 110 = .ok (.goto (-45), 3) := by decide +kernel
theorem dX9_breakDown_113 : decode cX9_breakDown 113 = .ok (.iload_n 3, 1) := by decide +kernel
theorem dX9_breakDown_114 : decode cX9_breakDown 114 = .ok (.iconst (-1), 1) := by decide +kernel
theorem dX9_breakDown_115 : decode cX9_breakDown 115 = .ok (.if_icmp .eq 24, 3) := by decide +kernel
theorem dX9_breakDown_118 : decode cX9_breakDown 118 = .ok (.aload_n 0, 1) := by decide +kernel
theorem dX9_breakDown_119 : decode cX9_breakDown 119 = .ok (.getfield 74, 3) := by decide +kernel
theorem dX9_breakDown_122 : decode cX9_breakDown 122 = .ok (.iload_n 3, 1) := by decide +kernel
theorem dX9_breakDown_123 : decode cX9_breakDown 123 = .ok (.iconst 0, 1) := by decide +kernel
theorem dX9_breakDown_124 : decode cX9_breakDown 124 = .ok (.iastore, 1) := by decide +kernel
theorem dX9_breakDown_125 : decode cX9_breakDown 125 = .ok (.aload_n 0, 1) := by decide +kernel
theorem dX9_breakDown_126 : decode cX9_breakDown 126 = .ok (.getfield 86, 3) := by decide +kernel
theorem dX9_breakDown_129 : decode cX9_breakDown 129 = .ok (.iload_n 3, 1) := by decide +kernel
theorem dX9_breakDown_130 : decode cX9_breakDown 130 = .ok (.iconst (-1), 1) := by decide +kernel
theorem dX9_breakDown_131 : decode cX9_breakDown 131 = .ok (.iastore, 1) := by decide +kernel
theorem dX9_breakDown_132 : decode cX9_breakDown 132 = .ok (.aload_n 0, 1) := by decide +kernel
theorem dX9_breakDown_133 : decode cX9_breakDown 133 = .ok (.getfield 89, 3) := by decide +kernel
theorem dX9_breakDown_136 : decode cX9_breakDown 136 = .ok (.iload_n 3, 1) := by decide +kernel
theorem dX9_breakDown_137 : decode cX9_breakDown 137 = .ok (.iconst (-1), 1) := by decide +kernel
theorem dX9_breakDown_138 : decode cX9_breakDown 138 = .ok (.iastore, 1) := by decide +kernel
theorem dX9_breakDown_139 : decode cX9_breakDown 139 = .ok (.iload_n 3, 1) := by decide +kernel
theorem dX9_breakDown_140 : decode cX9_breakDown 140 = .ok (.ireturn, 1) := by decide +kernel
set_option maxRecDepth 20000 in
theorem ggX9_meeting_X9_isMachine : GoodIn wsX9_meeting wsX9_isMachine := goodIn_r _ [12, 13, 14, 15, 11, 16, 61, 62, 63, 64, 65, 66, 67, 68, 69, 70, 71, 72, 73, 74, 75, 76, 77, 78, 79, 80, 81, 82, 83, 84, 85, 86, 87, 88, 89, 90, 91, 92, 93, 94, 95] (by decide +kernel) (by decide +kernel)
set_option maxRecDepth 20000 in
theorem gX9_meeting_X9_isMachine : GoodIn wsX9_meeting (wsV RX9 147 RX9 yX9_isMachine wsX9_isMachine) := goodIn_app (goodIn_of _ (by decide +kernel)) ggX9_meeting_X9_isMachine
set_option maxRecDepth 20000 in
theorem ggX9_meeting_X9_in : GoodIn wsX9_meeting wsX9_in := goodIn_r _ [16] (by decide +kernel) (by decide +kernel)
set_option maxRecDepth 20000 in
theorem gX9_meeting_X9_in : GoodIn wsX9_meeting (va_wsS RX9 99 yX9_in wsX9_in) := goodIn_app (goodIn_of _ (by decide +kernel)) ggX9_meeting_X9_in
set_option maxRecDepth 20000 in
theorem ggX9_meeting_X9_isOnOneDay : GoodIn wsX9_meeting wsX9_isOnOneDay := goodIn_r _ [19] (by decide +kernel) (by decide +kernel)
set_option maxRecDepth 20000 in
theorem gX9_meeting_X9_isOnOneDay : GoodIn wsX9_meeting (va_wsS RX9 150 yX9_isOnOneDay wsX9_isOnOneDay) := goodIn_app (goodIn_of _ (by decide +kernel)) ggX9_meeting_X9_isOnOneDay
set_option maxRecDepth 20000 in
theorem ggX9_meeting_X9_canBe : GoodIn wsX9_meeting wsX9_canBe := goodIn_r _ [23, 24, 25, 26, 11, 27, 2, 4, 28, 29, 30, 31, 3, 5, 6, 14, 15, 16, 32, 33, 34, 35, 36, 37, 38, 39, 40, 7, 41, 42, 43, 44, 45, 46, 47, 48, 49, 50, 51, 52, 53, 54, 55, 61, 62, 63, 64, 65, 66, 67, 68, 69, 70, 71, 72, 73, 74, 75, 76, 77, 78, 79, 80, 81, 82, 83, 84, 85, 86, 87, 88, 89, 90, 91, 92, 93, 94, 95] (by decide +kernel) (by decide +kernel)
set_option maxRecDepth 20000 in
theorem gX9_meeting_X9_canBe : GoodIn wsX9_meeting (wsV RX9 153 RX9 yX9_canBe wsX9_canBe) := goodIn_app (goodIn_of _ (by decide +kernel)) ggX9_meeting_X9_canBe
set_option maxRecDepth 20000 in
theorem ggX9_meeting_X9_refused : GoodIn wsX9_meeting wsX9_refused := goodIn_r _ [59, 60, 61, 62, 63, 64, 65, 66, 67, 68, 69, 70, 71, 72, 73, 74, 75, 76, 77, 78, 79, 80, 81, 82, 83, 84, 85, 86, 87, 88, 89, 90, 91, 92, 93, 94, 95] (by decide +kernel) (by decide +kernel)
set_option maxRecDepth 20000 in
theorem gX9_meeting_X9_refused : GoodIn wsX9_meeting (wsV RX9 141 RX9 yX9_refused wsX9_refused) := goodIn_app (goodIn_of _ (by decide +kernel)) ggX9_meeting_X9_refused
theorem dX9_meeting_0 : decode cX9_meeting 0 = .ok (.iload 4, 2) := by decide +kernel
theorem dX9_meeting_2 : decode cX9_meeting 2 = .ok (.iconst (-1), 1) := by decide +kernel
theorem dX9_meeting_3 : decode cX9_meeting 3 = .ok (.if_icmp .eq 12, 3) := by decide +kernel
theorem dX9_meeting_6 : decode cX9_meeting 6 = .ok (.aload_n 0, 1) := by decide +kernel
theorem dX9_meeting_7 : decode cX9_meeting 7 = .ok (.iload 4, 2) := by decide +kernel
theorem dX9_meeting_9 : decode cX9_meeting 9 = .ok (.invokevirtual 147, 3) := by decide +kernel
theorem dX9_meeting_12 : decode cX9_meeting 12 = .ok (.ifCond .eq 7, 3) := by decide +kernel
theorem dX9_meeting_15 : decode cX9_meeting 15 = .ok (.iconst 1, 1) := by decide +kernel
theorem dX9_meeting_16 : decode cX9_meeting 16 = .ok (.goto 4, 3) := by decide +kernel
theorem dX9_meeting_19 : decode cX9_meeting 19 = .ok (.iconst 0, 1) := by decide +kernel
theorem dX9_meeting_20 : decode cX9_meeting 20 = .ok (.istore 5, 2) := by decide +kernel
theorem dX9_meeting_22 : decode cX9_meeting 22 = .ok (.iload_n 1, 1) := by decide +kernel
theorem dX9_meeting_23 : decode cX9_meeting 23 = .ok (.iconst 1, 1) := by decide +kernel
theorem dX9_meeting_24 : decode cX9_meeting 24 = .ok (.sipush 1023, 3) := by decide +kernel
theorem dX9_meeting_27 : decode cX9_meeting 27 = .ok (.invokestatic 99, 3) := by decide +kernel
theorem dX9_meeting_30 : decode cX9_meeting 30 = .ok (.ifCond .eq 38, 3) := by decide +kernel
theorem dX9_meeting_33 : decode cX9_meeting 33 = .ok (.iload_n 2, 1) := by decide +kernel
theorem dX9_meeting_34 : decode cX9_meeting 34 = .ok (.aload_n 0, 1) := by decide +kernel
theorem dX9_meeting_35 : decode cX9_meeting 35 = .ok (.getfield 144, 3) := by decide +kernel
theorem dX9_meeting_38 : decode cX9_meeting 38 = .ok (.sipush 399, 3) := by decide +kernel
theorem dX9_meeting_41 : decode cX9_meeting 41 = .ok (.invokestatic 99, 3) := by decide +kernel
theorem dX9_meeting_44 : decode cX9_meeting 44 = .ok (.ifCond .eq 24, 3) := by decide +kernel
theorem dX9_meeting_47 : decode cX9_meeting 47 = .ok (.iload_n 3, 1) := by decide +kernel
theorem dX9_meeting_48 : decode cX9_meeting 48 = .ok (.iconst 1, 1) := by decide +kernel
theorem dX9_meeting_49 : decode cX9_meeting 49 = .ok (.iconst 4, 1) := by decide +kernel
theorem dX9_meeting_50 : decode cX9_meeting 50 = .ok (.invokestatic 99, 3) := by decide +kernel
theorem dX9_meeting_53 : decode cX9_meeting 53 = .ok (.ifCond .eq 15, 3) := by decide +kernel
theorem dX9_meeting_56 : decode cX9_meeting 56 = .ok (.iload_n 2, 1) := by decide +kernel
theorem dX9_meeting_57 : decode cX9_meeting 57 = .ok (.iload_n 3, 1) := by decide +kernel
theorem dX9_meeting_58 : decode cX9_meeting 58 = .ok (.invokestatic 150, 3) := by decide +kernel
theorem dX9_meeting_61 : decode cX9_meeting 61 = .ok (.ifCond .eq 7, 3) := by decide +kernel
theorem dX9_meeting_64 : decode cX9_meeting 64 = .ok (.iconst 1, 1) := by decide +kernel
theorem dX9_meeting_65 : decode cX9_meeting 65 = .ok (.goto 4, 3) := by decide +kernel
theorem dX9_meeting_68 : decode cX9_meeting 68 = .ok (.iconst 0, 1) := by decide +kernel
theorem dX9_meeting_69 : decode cX9_meeting 69 = .ok (.istore 6, 2) := by decide +kernel
theorem dX9_meeting_71 : decode cX9_meeting 71 = .ok (.iload 5, 2) := by decide +kernel
theorem dX9_meeting_73 : decode cX9_meeting 73 = .ok (.ifCond .eq 34, 3) := by decide +kernel
theorem dX9_meeting_76 : decode cX9_meeting 76 = .ok (.iload 6, 2) := by decide +kernel
theorem dX9_meeting_78 : decode cX9_meeting 78 = .ok (.ifCond .eq 29, 3) := by decide +kernel
theorem dX9_meeting_81 : decode cX9_meeting 81 = .ok (.aload_n 0, 1) := by decide +kernel
theorem dX9_meeting_82 : decode cX9_meeting 82 = .ok (.getfield 106, 3) := by decide +kernel
theorem dX9_meeting_85 : decode cX9_meeting 85 = .ok (.bipush 30, 2) := by decide +kernel
theorem dX9_meeting_87 : decode cX9_meeting 87 = .ok (.if_icmp .ge 20, 3) := by decide +kernel
theorem dX9_meeting_90 : decode cX9_meeting 90 = .ok (.aload_n 0, 1) := by decide +kernel
theorem dX9_meeting_91 : decode cX9_meeting 91 = .ok (.iconst (-1), 1) := by decide +kernel
theorem dX9_meeting_92 : decode cX9_meeting 92 = .ok (.iload_n 1, 1) := by decide +kernel
theorem dX9_meeting_93 : decode cX9_meeting 93 = .ok (.iload_n 2, 1) := by decide +kernel
theorem dX9_meeting_94 : decode cX9_meeting 94 = .ok (.iload_n 3, 1) := by decide +kernel
theorem dX9_meeting_95 : decode cX9_meeting 95 = .ok (.iload 4, 2) := by decide +kernel
theorem dX9_meeting_97 : decode cX9_meeting 97 = .ok (.invokevirtual 153, 3) := by decide +kernel
theorem dX9_meeting_100 : decode cX9_meeting 100 = .ok (.ifCond .eq 7, 3) := by decide +kernel
theorem dX9_meeting_103 : decode cX9_meeting 103 = .ok (.iconst 1, 1) := by decide +kernel
theorem dX9_meeting_104 : decode cX9_meeting 104 = .ok (.goto 4, 3) := by decide +kernel
theorem dX9_meeting_107 : decode cX9_meeting 107 = .ok (.iconst 0, 1) := by decide +kernel
theorem dX9_meeting_108 : decode cX9_meeting 108 = .ok (.istore 7, 2) := by decide +kernel
theorem dX9_meeting_110 : decode cX9_meeting 110 = .ok (.aload_n 0, 1) := by decide +kernel
theorem dX9_meeting_111 : decode cX9_meeting 111 = .ok (.iload 5, 2) := by decide +kernel
theorem dX9_meeting_113 : decode cX9_meeting 113 = .ok (.ifCond .ne 7, 3) := by decide +kernel
theorem dX9_meeting_116 : decode cX9_meeting 116 = .ok (.iconst 1, 1) := by decide +kernel
theorem dX9_meeting_117 : decode cX9_meeting 117 = .ok (.goto 22, 3) := by decide +kernel
theorem dX9_meeting_120 : decode cX9_meeting 120 = .ok (.iload 6, 2) := by decide +kernel
theorem dX9_meeting_122 : decode cX9_meeting 122 = .ok (.ifCond .ne 7, 3) := by decide +kernel
theorem dX9_meeting_125 : decode cX9_meeting 125 = .ok (.iconst 2, 1) := by decide +kernel
theorem dX9_meeting_126 : decode cX9_meeting 126 = .ok (.goto 13, 3) := by decide +kernel
theorem dX9_meeting_129 : decode cX9_meeting 129 = .ok (.iload 7, 2) := by decide +kernel
theorem dX9_meeting_131 : decode cX9_meeting 131 = .ok (.ifCond .eq 7, 3) := by decide +kernel
theorem dX9_meeting_134 : decode cX9_meeting 134 = .ok (.iconst 0, 1) := by decide +kernel
theorem dX9_meeting_135 : decode cX9_meeting 135 = .ok (.goto 4, 3) := by decide +kernel
theorem dX9_meeting_138 : decode cX9_meeting 138 = .ok (.iconst 3, 1) := by decide +kernel
theorem dX9_meeting_139 : decode cX9_meeting 139 = .ok (.invokevirtual 141, 3) := by decide +kernel
theorem dX9_meeting_142 : decode cX9_meeting 142 = .ok (.ifCond .eq 5, 3) := by decide +kernel
theorem dX9_meeting_145 : decode cX9_meeting 145 = .ok (.iconst 0, 1) := by decide +kernel
theorem dX9_meeting_146 : decode cX9_meeting 146 = .ok (.ireturn, 1) := by decide +kernel
theorem dX9_meeting_147 : decode cX9_meeting 147 = .ok (.aload_n 0, 1) := by decide +kernel
theorem dX9_meeting_148 : decode cX9_meeting 148 = .ok (.getfield 38, 3) := by decide +kernel
theorem dX9_meeting_151 : decode cX9_meeting 151 = .ok (.aload_n 0, 1) := by decide +kernel
theorem dX9_meeting_152 : decode cX9_meeting 152 = .ok (.getfield 106, 3) := by decide +kernel
theorem dX9_meeting_155 : decode cX9_meeting 155 = .ok (.iconst 0, 1) := by decide +kernel
theorem dX9_meeting_156 : decode cX9_meeting 156 = .ok (.iastore, 1) := by decide +kernel
theorem dX9_meeting_157 : decode cX9_meeting 157 = .ok (.aload_n 0, 1) := by decide +kernel
theorem dX9_meeting_158 : decode cX9_meeting 158 = .ok (.getfield 41, 3) := by decide +kernel
theorem dX9_meeting_161 : decode cX9_meeting 161 = .ok (.aload_n 0, 1) := by decide +kernel
theorem dX9_meeting_162 : decode cX9_meeting 162 = .ok (.getfield 106, 3) := by decide +kernel
theorem dX9_meeting_165 : decode cX9_meeting 165 = .ok (.iload_n 1, 1) := by decide +kernel
theorem dX9_meeting_166 : decode cX9_meeting 166 = .ok (.iastore, 1) := by decide +kernel
theorem dX9_meeting_167 : decode cX9_meeting 167 = .ok (.aload_n 0, 1) := by decide +kernel
theorem dX9_meeting_168 : decode cX9_meeting 168 = .ok (.getfield 44, 3) := by decide +kernel
theorem dX9_meeting_171 : decode cX9_meeting 171 = .ok (.aload_n 0, 1) := by decide +kernel
theorem dX9_meeting_172 : decode cX9_meeting 172 = .ok (.getfield 106, 3) := by decide +kernel
theorem dX9_meeting_175 : decode cX9_meeting 175 = .ok (.iload_n 2, 1) := by decide +kernel
theorem dX9_meeting_176 : decode cX9_meeting 176 = .ok (.iastore, 1) := by decide +kernel
theorem dX9_meeting_177 : decode cX9_meeting 177 = .ok (.aload_n 0, 1) := by decide +kernel
theorem dX9_meeting_178 : decode cX9_meeting 178 = .ok (.getfield 47, 3) := by decide +kernel
theorem dX9_meeting_181 : decode cX9_meeting 181 = .ok (.aload_n 0, 1) := by decide +kernel
theorem dX9_meeting_182 : decode cX9_meeting 182 = .ok (.getfield 106, 3) := by decide +kernel
theorem dX9_meeting_185 : decode cX9_meeting 185 = .ok (.iload_n 3, 1) := by decide +kernel
theorem dX9_meeting_186 : decode cX9_meeting 186 = .ok (.iastore, 1) := by decide +kernel
theorem dX9_meeting_187 : decode cX9_meeting 187 = .ok (.aload_n 0, 1) := by decide +kernel
theorem dX9_meeting_188 : decode cX9_meeting 188 = .ok (.getfield 50, 3) := by decide +kernel
theorem dX9_meeting_191 : decode cX9_meeting 191 = .ok (.aload_n 0, 1) := by decide +kernel
theorem dX9_meeting_192 : decode cX9_meeting 192 = .ok (.getfield 106, 3) := by decide +kernel
theorem dX9_meeting_195 : decode cX9_meeting 195 = .ok (.iload 4, 2) := by decide +kernel
theorem dX9_meeting_197 : decode cX9_meeting 197 = .ok (.iastore, 1) := by decide +kernel
theorem dX9_meeting_198 : decode cX9_meeting 198 = .ok (.aload_n 0, 1) := by decide +kernel
theorem dX9_meeting_199 : decode cX9_meeting 199 = .ok (.dup, 1) := by decide +kernel
theorem dX9_meeting_200 : decode cX9_meeting 200 = .ok (.getfield 106, 3) := by decide +kernel
theorem dX9_meeting_203 : decode cX9_meeting 203 = .ok (.iconst 1, 1) := by decide +kernel
theorem dX9_meeting_204 : decode cX9_meeting 204 = .ok (.iadd, 1) := by decide +kernel
theorem dX9_meeting_205 : decode cX9_meeting 205 = .ok (.putfield 106, 3) := by decide +kernel
theorem dX9_meeting_208 : decode cX9_meeting 208 = .ok (.aload_n 0, 1) := by decide +kernel
theorem dX9_meeting_209 : decode cX9_meeting 209 = .ok (.getfield 106, 3) := by decide +kernel
theorem dX9_meeting_212 : decode cX9_meeting 212 = .ok (.iconst 1, 1) := by decide +kernel
theorem dX9_meeting_213 : decode cX9_meeting 213 = .ok (.isub, 1) := by decide +kernel
theorem dX9_meeting_214 : decode cX9_meeting 214 = .ok (.ireturn, 1) := by decide +kernel
theorem dX9_isAhead_0 : decode cX9_isAhead 0 = .ok (.aload_n 0, 1) := by decide +kernel
theorem dX9_isAhead_1 : decode cX9_isAhead 1 = .ok (.getfield 38, 3) := by decide +kernel
theorem dX9_isAhead_4 : decode cX9_isAhead 4 = .ok (.iload_n 1, 1) := by decide +kernel
theorem dX9_isAhead_5 : decode cX9_isAhead 5 = .ok (.iaload, 1) := by decide +kernel
theorem dX9_isAhead_6 : decode cX9_isAhead 6 = .ok (.ifCond .ne 20, 3) := by decide +kernel
theorem dX9_isAhead_9 : decode cX9_isAhead 9 = .ok (.aload_n 0, 1) := by decide +kernel
theorem dX9_isAhead_10 : decode cX9_isAhead 10 = .ok (.getfield 44, 3) := by decide +kernel
theorem dX9_isAhead_13 : decode cX9_isAhead 13 = .ok (.iload_n 1, 1) := by decide +kernel
theorem dX9_isAhead_14 : decode cX9_isAhead 14 = .ok (.iaload, 1) := by decide +kernel
theorem dX9_isAhead_15 : decode cX9_isAhead 15 = .ok (.aload_n 0, 1) := by decide +kernel
theorem dX9_isAhead_16 : decode cX9_isAhead 16 = .ok (.getfield 144, 3) := by decide +kernel
theorem dX9_isAhead_19 : decode cX9_isAhead 19 = .ok (.if_icmp .lt 7, 3) := by decide +kernel
theorem dX9_isAhead_22 : decode cX9_isAhead 22 = .ok (.iconst 1, 1) := by decide +kernel
theorem dX9_isAhead_23 : decode cX9_isAhead 23 = .ok (.goto 4, 3) := by decide +kernel
theorem dX9_isAhead_26 : decode cX9_isAhead 26 = .ok (.iconst 0, 1) := by decide +kernel
theorem dX9_isAhead_27 : decode cX9_isAhead 27 = .ok (.ireturn, 1) := by decide +kernel
set_option maxRecDepth 20000 in
theorem ggX9_move_X9_isMeeting : GoodIn wsX9_move wsX9_isMeeting := goodIn_r _ [11, 12, 13, 14, 10, 15, 65, 66, 67, 68, 69, 70, 71, 72, 73, 74, 75, 76, 77, 78, 79, 80, 81, 82, 83, 84, 85, 86, 87, 88, 89, 90, 91, 92, 93, 94, 95, 96, 97, 98, 99] (by decide +kernel) (by decide +kernel)
set_option maxRecDepth 20000 in
theorem gX9_move_X9_isMeeting : GoodIn wsX9_move (wsV RX9 157 RX9 yX9_isMeeting wsX9_isMeeting) := goodIn_app (goodIn_of _ (by decide +kernel)) ggX9_move_X9_isMeeting
set_option maxRecDepth 20000 in
theorem ggX9_move_X9_in : GoodIn wsX9_move wsX9_in := goodIn_r _ [15] (by decide +kernel) (by decide +kernel)
set_option maxRecDepth 20000 in
theorem gX9_move_X9_in : GoodIn wsX9_move (va_wsS RX9 99 yX9_in wsX9_in) := goodIn_app (goodIn_of _ (by decide +kernel)) ggX9_move_X9_in
set_option maxRecDepth 20000 in
theorem ggX9_move_X9_isOnOneDay : GoodIn wsX9_move wsX9_isOnOneDay := goodIn_r _ [18] (by decide +kernel) (by decide +kernel)
set_option maxRecDepth 20000 in
theorem gX9_move_X9_isOnOneDay : GoodIn wsX9_move (va_wsS RX9 150 yX9_isOnOneDay wsX9_isOnOneDay) := goodIn_app (goodIn_of _ (by decide +kernel)) ggX9_move_X9_isOnOneDay
set_option maxRecDepth 20000 in
theorem ggX9_move_X9_isAhead : GoodIn wsX9_move wsX9_isAhead := goodIn_r _ [22, 23, 5, 1, 65, 66, 67, 68, 69, 70, 71, 72, 73, 74, 75, 76, 77, 78, 79, 80, 81, 82, 83, 84, 85, 86, 87, 88, 89, 90, 91, 92, 93, 94, 95, 96, 97, 98, 99] (by decide +kernel) (by decide +kernel)
set_option maxRecDepth 20000 in
theorem gX9_move_X9_isAhead : GoodIn wsX9_move (wsV RX9 160 RX9 yX9_isAhead wsX9_isAhead) := goodIn_app (goodIn_of _ (by decide +kernel)) ggX9_move_X9_isAhead
set_option maxRecDepth 20000 in
theorem ggX9_move_X9_refused : GoodIn wsX9_move wsX9_refused := goodIn_r _ [27, 28, 65, 66, 67, 68, 69, 70, 71, 72, 73, 74, 75, 76, 77, 78, 79, 80, 81, 82, 83, 84, 85, 86, 87, 88, 89, 90, 91, 92, 93, 94, 95, 96, 97, 98, 99] (by decide +kernel) (by decide +kernel)
set_option maxRecDepth 20000 in
theorem gX9_move_X9_refused : GoodIn wsX9_move (wsV RX9 141 RX9 yX9_refused wsX9_refused) := goodIn_app (goodIn_of _ (by decide +kernel)) ggX9_move_X9_refused
set_option maxRecDepth 20000 in
theorem ggX9_move_X9_canBe : GoodIn wsX9_move wsX9_canBe := goodIn_r _ [32, 33, 34, 35, 10, 36, 12, 3, 37, 38, 39, 40, 23, 5, 2, 13, 14, 15, 41, 42, 43, 44, 45, 46, 47, 48, 49, 4, 50, 51, 52, 53, 54, 55, 56, 57, 58, 59, 60, 61, 62, 63, 64, 65, 66, 67, 68, 69, 70, 71, 72, 73, 74, 75, 76, 77, 78, 79, 80, 81, 82, 83, 84, 85, 86, 87, 88, 89, 90, 91, 92, 93, 94, 95, 96, 97, 98, 99] (by decide +kernel) (by decide +kernel)
set_option maxRecDepth 20000 in
theorem gX9_move_X9_canBe : GoodIn wsX9_move (wsV RX9 153 RX9 yX9_canBe wsX9_canBe) := goodIn_app (goodIn_of _ (by decide +kernel)) ggX9_move_X9_canBe
theorem dX9_move_0 : decode cX9_move 0 = .ok (.aload_n 0, 1) := by decide +kernel
theorem dX9_move_1 : decode cX9_move 1 = .ok (.iload_n 1, 1) := by decide +kernel
theorem dX9_move_2 : decode cX9_move 2 = .ok (.invokevirtual 157, 3) := by decide +kernel
theorem dX9_move_5 : decode cX9_move 5 = .ok (.istore_n 3, 1) := by decide +kernel
theorem dX9_move_6 : decode cX9_move 6 = .ok (.iload_n 3, 1) := by decide +kernel
theorem dX9_move_7 : decode cX9_move 7 = .ok (.ifCond .eq 34, 3) := by decide +kernel
theorem dX9_move_10 : decode cX9_move 10 = .ok (.iload_n 2, 1) := by decide +kernel
theorem dX9_move_11 : decode cX9_move 11 = .ok (.aload_n 0, 1) := by decide +kernel
theorem dX9_move_12 : decode cX9_move 12 = .ok (.getfield 144, 3) := by decide +kernel
theorem dX9_move_15 : decode cX9_move 15 = .ok (.sipush 399, 3) := by decide +kernel
theorem dX9_move_18 : decode cX9_move 18 = .ok (.invokestatic 99, 3) := by decide +kernel
theorem dX9_move_21 : decode cX9_move 21 = .ok (.ifCond .eq 20, 3) := by decide +kernel
theorem dX9_move_24 : decode cX9_move 24 = .ok (.iload_n 2, 1) := by decide +kernel
theorem dX9_move_25 : decode cX9_move 25 = .ok (.aload_n 0, 1) := by decide +kernel
theorem dX9_move_26 : decode cX9_move 26 = .ok (.getfield 47, 3) := by decide +kernel
theorem dX9_move_29 : decode cX9_move 29 = .ok (.iload_n 1, 1) := by decide +kernel
theorem dX9_move_30 : decode cX9_move 30 = .ok (.iaload, 1) := by decide +kernel
theorem dX9_move_31 : decode cX9_move 31 = .ok (.invokestatic 150, 3) := by decide +kernel
theorem dX9_move_34 : decode cX9_move 34 = .ok (.ifCond .eq 7, 3) := by decide +kernel
theorem dX9_move_37 : decode cX9_move 37 = .ok (.iconst 1, 1) := by decide +kernel
theorem dX9_move_38 : decode cX9_move 38 = .ok (.goto 4, 3) := by decide +kernel
theorem dX9_move_41 : decode cX9_move 41 = .ok (.iconst 0, 1) := by decide +kernel
theorem dX9_move_42 : decode cX9_move 42 = .ok (.istore 4, 2) := by decide +kernel
theorem dX9_move_44 : decode cX9_move 44 = .ok (.aload_n 0, 1) := by decide +kernel
theorem dX9_move_45 : decode cX9_move 45 = .ok (.iload_n 3, 1) := by decide +kernel
theorem dX9_move_46 : decode cX9_move 46 = .ok (.ifCond .ne 7, 3) := by decide +kernel
theorem dX9_move_49 : decode cX9_move 49 = .ok (.iconst 1, 1) := by decide +kernel
theorem dX9_move_50 : decode cX9_move 50 = .ok (.goto 25, 3) := by decide +kernel
theorem dX9_move_53 : decode cX9_move 53 = .ok (.iload 4, 2) := by decide +kernel
theorem dX9_move_55 : decode cX9_move 55 = .ok (.ifCond .ne 7, 3) := by decide +kernel
theorem dX9_move_58 : decode cX9_move 58 = .ok (.iconst 2, 1) := by decide +kernel
theorem dX9_move_59 : decode cX9_move 59 = .ok (.goto 16, 3) := by decide +kernel
theorem dX9_move_62 : decode cX9_move 62 = .ok (.aload_n 0, 1) := by decide +kernel
theorem dX9_move_63 : decode cX9_move 63 = .ok (.iload_n 1, 1) := by decide +kernel
theorem dX9_move_64 : decode cX9_move 64 = .ok (.invokevirtual 160, 3) := by decide +kernel
theorem dX9_move_67 : decode cX9_move 67 = .ok (.ifCond .ne 7, 3) := by decide +kernel
theorem dX9_move_70 : decode cX9_move 70 = .ok (.iconst 3, 1) := by decide +kernel
theorem dX9_move_71 : decode cX9_move 71 = .ok (.goto 4, 3) := by decide +kernel
theorem dX9_move_74 : decode cX9_move 74 = .ok (.iconst 0, 1) := by decide +kernel
theorem dX9_move_75 : decode cX9_move 75 = .ok (.invokevirtual 141, 3) := by decide +kernel
theorem dX9_move_78 : decode cX9_move 78 = .ok (.ifCond .eq 5, 3) := by decide +kernel
theorem dX9_move_81 : decode cX9_move 81 = .ok (.iconst 0, 1) := by decide +kernel
theorem dX9_move_82 : decode cX9_move 82 = .ok (.ireturn, 1) := by decide +kernel
theorem dX9_move_83 : decode cX9_move 83 = .ok (.aload_n 0, 1) := by decide +kernel
theorem dX9_move_84 : decode cX9_move 84 = .ok (.iload_n 1, 1) := by decide +kernel
theorem dX9_move_85 : decode cX9_move 85 = .ok (.aload_n 0, 1) := by decide +kernel
theorem dX9_move_86 : decode cX9_move 86 = .ok (.getfield 41, 3) := by decide +kernel
theorem dX9_move_89 : decode cX9_move 89 = .ok (.iload_n 1, 1) := by decide +kernel
theorem dX9_move_90 : decode cX9_move 90 = .ok (.iaload, 1) := by decide +kernel
theorem dX9_move_91 : decode cX9_move 91 = .ok (.iload_n 2, 1) := by decide +kernel
theorem dX9_move_92 : decode cX9_move 92 = .ok (.aload_n 0, 1) := by decide +kernel
theorem dX9_move_93 : decode cX9_move 93 = .ok (.getfield 47, 3) := by decide +kernel
theorem dX9_move_96 : decode cX9_move 96 = .ok (.iload_n 1, 1) := by decide +kernel
theorem dX9_move_97 : decode cX9_move 97 = .ok (.iaload, 1) := by decide +kernel
theorem dX9_move_98 : decode cX9_move 98 = .ok (.aload_n 0, 1) := by decide +kernel
theorem dX9_move_99 : decode cX9_move 99 = .ok (.getfield 50, 3) := by decide +kernel
theorem dX9_move_102 : decode cX9_move 102 = .ok (.iload_n 1, 1) := by decide +kernel
theorem dX9_move_103 : decode cX9_move 103 = .ok (.iaload, 1) := by decide +kernel
theorem dX9_move_104 : decode cX9_move 104 = .ok (.invokevirtual 153, 3) := by decide +kernel
theorem dX9_move_107 : decode cX9_move 107 = .ok (.istore 5, 2) := by decide +kernel
theorem dX9_move_109 : decode cX9_move 109 = .ok (.iload 5, 2) := by decide +kernel
theorem dX9_move_111 : decode cX9_move 111 = .ok (.ifCond .eq 20, 3) := by decide +kernel
theorem dX9_move_114 : decode cX9_move 114 = .ok (.aload_n 0, 1) := by decide +kernel
theorem dX9_move_115 : decode cX9_move 115 = .ok (.getfield 44, 3) := by decide +kernel
theorem dX9_move_118 : decode cX9_move 118 = .ok (.iload_n 1, 1) := by decide +kernel
theorem dX9_move_119 : decode cX9_move 119 = .ok (.iload_n 2, 1) := by decide +kernel
theorem dX9_move_120 : decode cX9_move 120 = .ok (.iastore, 1) := by decide +kernel
theorem dX9_move_121 : decode cX9_move 121 = .ok (.aload_n 0, 1) := by decide +kernel
theorem dX9_move_122 : decode cX9_move 122 = .ok (.getfield 53, 3) := by decide +kernel
theorem dX9_move_125 : decode cX9_move 125 = .ok (.iload_n 1, 1) := by decide +kernel
theorem dX9_move_126 : decode cX9_move 126 = .ok (.dup2, 1) := by decide +kernel
theorem dX9_move_127 : decode cX9_move 127 = .ok (.iaload, 1) := by decide +kernel
theorem dX9_move_128 : decode cX9_move 128 = .ok (.iconst 1, 1) := by decide +kernel
theorem dX9_move_129 : decode cX9_move 129 = .ok (.iadd, 1) := by decide +kernel
theorem dX9_move_130 : decode cX9_move 130 = .ok (.iastore, 1) := by decide +kernel
theorem dX9_move_131 : decode cX9_move 131 = .ok (.iload 5, 2) := by decide +kernel
theorem dX9_move_133 : decode cX9_move 133 = .ok (.ireturn, 1) := by decide +kernel
set_option maxRecDepth 20000 in
theorem ggX9_cancel_X9_isMeeting : GoodIn wsX9_cancel wsX9_isMeeting := goodIn_r _ [6, 7, 8, 9, 5, 10, 22, 23, 24, 25, 26, 27, 28, 29, 30, 31, 32, 33, 34, 35, 36, 37, 38, 39, 40, 41, 42, 43, 44, 45, 46, 47, 48, 49, 50, 51, 52, 53, 54, 55, 56] (by decide +kernel) (by decide +kernel)
set_option maxRecDepth 20000 in
theorem gX9_cancel_X9_isMeeting : GoodIn wsX9_cancel (wsV RX9 157 RX9 yX9_isMeeting wsX9_isMeeting) := goodIn_app (goodIn_of _ (by decide +kernel)) ggX9_cancel_X9_isMeeting
set_option maxRecDepth 20000 in
theorem ggX9_cancel_X9_isAhead : GoodIn wsX9_cancel wsX9_isAhead := goodIn_r _ [14, 1, 15, 16, 22, 23, 24, 25, 26, 27, 28, 29, 30, 31, 32, 33, 34, 35, 36, 37, 38, 39, 40, 41, 42, 43, 44, 45, 46, 47, 48, 49, 50, 51, 52, 53, 54, 55, 56] (by decide +kernel) (by decide +kernel)
set_option maxRecDepth 20000 in
theorem gX9_cancel_X9_isAhead : GoodIn wsX9_cancel (wsV RX9 160 RX9 yX9_isAhead wsX9_isAhead) := goodIn_app (goodIn_of _ (by decide +kernel)) ggX9_cancel_X9_isAhead
set_option maxRecDepth 20000 in
theorem ggX9_cancel_X9_refused : GoodIn wsX9_cancel wsX9_refused := goodIn_r _ [20, 21, 22, 23, 24, 25, 26, 27, 28, 29, 30, 31, 32, 33, 34, 35, 36, 37, 38, 39, 40, 41, 42, 43, 44, 45, 46, 47, 48, 49, 50, 51, 52, 53, 54, 55, 56] (by decide +kernel) (by decide +kernel)
set_option maxRecDepth 20000 in
theorem gX9_cancel_X9_refused : GoodIn wsX9_cancel (wsV RX9 141 RX9 yX9_refused wsX9_refused) := goodIn_app (goodIn_of _ (by decide +kernel)) ggX9_cancel_X9_refused
theorem dX9_cancel_0 : decode cX9_cancel 0 = .ok (.aload_n 0, 1) := by decide +kernel
theorem dX9_cancel_1 : decode cX9_cancel 1 = .ok (.iload_n 1, 1) := by decide +kernel
theorem dX9_cancel_2 : decode cX9_cancel 2 = .ok (.invokevirtual 157, 3) := by decide +kernel
theorem dX9_cancel_5 : decode cX9_cancel 5 = .ok (.istore_n 2, 1) := by decide +kernel
theorem dX9_cancel_6 : decode cX9_cancel 6 = .ok (.aload_n 0, 1) := by decide +kernel
theorem dX9_cancel_7 : decode cX9_cancel 7 = .ok (.iload_n 2, 1) := by decide +kernel
theorem dX9_cancel_8 : decode cX9_cancel 8 = .ok (.ifCond .ne 7, 3) := by decide +kernel
theorem dX9_cancel_11 : decode cX9_cancel 11 = .ok (.iconst 1, 1) := by decide +kernel
theorem dX9_cancel_12 : decode cX9_cancel 12 = .ok (.goto 16, 3) := by decide +kernel
theorem dX9_cancel_15 : decode cX9_cancel 15 = .ok (.aload_n 0, 1) := by decide +kernel
theorem dX9_cancel_16 : decode cX9_cancel 16 = .ok (.iload_n 1, 1) := by decide +kernel
theorem dX9_cancel_17 : decode cX9_cancel 17 = .ok (.invokevirtual 160, 3) := by decide +kernel
theorem dX9_cancel_20 : decode cX9_cancel 20 = .ok (.ifCond .ne 7, 3) := by decide +kernel
theorem dX9_cancel_23 : decode cX9_cancel 23 = .ok (.iconst 2, 1) := by decide +kernel
theorem dX9_cancel_24 : decode cX9_cancel 24 = .ok (.goto 4, 3) := by decide +kernel
theorem dX9_cancel_27 : decode cX9_cancel 27 = .ok (.iconst 0, 1) := by decide +kernel
theorem dX9_cancel_28 : decode cX9_cancel 28 = .ok (.invokevirtual 141, 3) := by decide +kernel
theorem dX9_cancel_31 : decode cX9_cancel 31 = .ok (.ifCond .eq 4, 3) := by decide +kernel
theorem dX9_cancel_34 : decode cX9_cancel 34 = .ok (.return_, 1) := by decide +kernel
theorem dX9_cancel_35 : decode cX9_cancel 35 = .ok (.aload_n 0, 1) := by decide +kernel
theorem dX9_cancel_36 : decode cX9_cancel 36 = .ok (.getfield 38, 3) := by decide +kernel
theorem dX9_cancel_39 : decode cX9_cancel 39 = .ok (.iload_n 1, 1) := by decide +kernel
theorem dX9_cancel_40 : decode cX9_cancel 40 = .ok (.iconst 1, 1) := by decide +kernel
theorem dX9_cancel_41 : decode cX9_cancel 41 = .ok (.iastore, 1) := by decide +kernel
theorem dX9_cancel_42 : decode cX9_cancel 42 = .ok (.return_, 1) := by decide +kernel
set_option maxRecDepth 20000 in
theorem ggX9_swap_X9_isMeeting : GoodIn wsX9_swap wsX9_isMeeting := goodIn_r _ [11, 12, 13, 14, 10, 15, 28, 29, 30, 31, 32, 33, 34, 35, 36, 37, 38, 39, 40, 41, 42, 43, 44, 45, 46, 47, 48, 49, 50, 51, 52, 53, 54, 55, 56, 57, 58, 59, 60, 61, 62] (by decide +kernel) (by decide +kernel)
set_option maxRecDepth 20000 in
theorem gX9_swap_X9_isMeeting : GoodIn wsX9_swap (wsV RX9 157 RX9 yX9_isMeeting wsX9_isMeeting) := goodIn_app (goodIn_of _ (by decide +kernel)) ggX9_swap_X9_isMeeting
set_option maxRecDepth 20000 in
theorem ggX9_swap_X9_isAhead : GoodIn wsX9_swap wsX9_isAhead := goodIn_r _ [19, 20, 21, 22, 28, 29, 30, 31, 32, 33, 34, 35, 36, 37, 38, 39, 40, 41, 42, 43, 44, 45, 46, 47, 48, 49, 50, 51, 52, 53, 54, 55, 56, 57, 58, 59, 60, 61, 62] (by decide +kernel) (by decide +kernel)
set_option maxRecDepth 20000 in
theorem gX9_swap_X9_isAhead : GoodIn wsX9_swap (wsV RX9 160 RX9 yX9_isAhead wsX9_isAhead) := goodIn_app (goodIn_of _ (by decide +kernel)) ggX9_swap_X9_isAhead
set_option maxRecDepth 20000 in
theorem ggX9_swap_X9_refused : GoodIn wsX9_swap wsX9_refused := goodIn_r _ [26, 27, 28, 29, 30, 31, 32, 33, 34, 35, 36, 37, 38, 39, 40, 41, 42, 43, 44, 45, 46, 47, 48, 49, 50, 51, 52, 53, 54, 55, 56, 57, 58, 59, 60, 61, 62] (by decide +kernel) (by decide +kernel)
set_option maxRecDepth 20000 in
theorem gX9_swap_X9_refused : GoodIn wsX9_swap (wsV RX9 141 RX9 yX9_refused wsX9_refused) := goodIn_app (goodIn_of _ (by decide +kernel)) ggX9_swap_X9_refused
theorem dX9_swap_0 : decode cX9_swap 0 = .ok (.aload_n 0, 1) := by decide +kernel
theorem dX9_swap_1 : decode cX9_swap 1 = .ok (.iload_n 1, 1) := by decide +kernel
theorem dX9_swap_2 : decode cX9_swap 2 = .ok (.invokevirtual 157, 3) := by decide +kernel
theorem dX9_swap_5 : decode cX9_swap 5 = .ok (.ifCond .eq 15, 3) := by decide +kernel
theorem dX9_swap_8 : decode cX9_swap 8 = .ok (.aload_n 0, 1) := by decide +kernel
theorem dX9_swap_9 : decode cX9_swap 9 = .ok (.iload_n 2, 1) := by decide +kernel
theorem dX9_swap_10 : decode cX9_swap 10 = .ok (.invokevirtual 157, 3) := by decide +kernel
theorem dX9_swap_13 : decode cX9_swap 13 = .ok (.ifCond .eq 7, 3) := by decide +kernel
theorem dX9_swap_16 : decode cX9_swap 16 = .ok (.iconst 1, 1) := by decide +kernel
theorem dX9_swap_17 : decode cX9_swap 17 = .ok (.goto 4, 3) := by decide +kernel
theorem dX9_swap_20 : decode cX9_swap 20 = .ok (.iconst 0, 1) := by decide +kernel
theorem dX9_swap_21 : decode cX9_swap 21 = .ok (.istore_n 3, 1) := by decide +kernel
theorem dX9_swap_22 : decode cX9_swap 22 = .ok (.aload_n 0, 1) := by decide +kernel
theorem dX9_swap_23 : decode cX9_swap 23 = .ok (.iload_n 3, 1) := by decide +kernel
theorem dX9_swap_24 : decode cX9_swap 24 = .ok (.ifCond .ne 7, 3) := by decide +kernel
theorem dX9_swap_27 : decode cX9_swap 27 = .ok (.iconst 1, 1) := by decide +kernel
theorem dX9_swap_28 : decode cX9_swap 28 = .ok (.goto 42, 3) := by decide +kernel
theorem dX9_swap_31 : decode cX9_swap 31 = .ok (.iload_n 1, 1) := by decide +kernel
theorem dX9_swap_32 : decode cX9_swap 32 = .ok (.iload_n 2, 1) := by decide +kernel
theorem dX9_swap_33 : decode cX9_swap 33 = .ok (.if_icmp .ne 7, 3) := by decide +kernel
theorem dX9_swap_36 : decode cX9_swap 36 = .ok (.iconst 2, 1) := by decide +kernel
theorem dX9_swap_37 : decode cX9_swap 37 = .ok (.goto 33, 3) := by decide +kernel
theorem dX9_swap_40 : decode cX9_swap 40 = .ok (.aload_n 0, 1) := by decide +kernel
theorem dX9_swap_41 : decode cX9_swap 41 = .ok (.iload_n 1, 1) := by decide +kernel
theorem dX9_swap_42 : decode cX9_swap 42 = .ok (.invokevirtual 160, 3) := by decide +kernel
theorem dX9_swap_45 : decode cX9_swap 45 = .ok (.ifCond .eq 20, 3) := by decide +kernel
theorem dX9_swap_48 : decode cX9_swap 48 = .ok (.aload_n 0, 1) := by decide +kernel
theorem dX9_swap_49 : decode cX9_swap 49 = .ok (.iload_n 2, 1) := by decide +kernel
theorem dX9_swap_50 : decode cX9_swap 50 = .ok (.invokevirtual 160, 3) := by decide +kernel
theorem dX9_swap_53 : decode cX9_swap 53 = .ok (.ifCond .eq 12, 3) := by decide +kernel
theorem dX9_swap_56 : decode cX9_swap 56 = .ok (.aload_n 0, 1) := by decide +kernel
theorem dX9_swap_57 : decode cX9_swap 57 = .ok (.getfield 109, 3) := by decide +kernel
theorem dX9_swap_60 : decode cX9_swap 60 = .ok (.bipush 20, 2) := by decide +kernel
theorem dX9_swap_62 : decode cX9_swap 62 = .ok (.if_icmp .ne 7, 3) := by decide +kernel
theorem dX9_swap_65 : decode cX9_swap 65 = .ok (.iconst 3, 1) := by decide +kernel
theorem dX9_swap_66 : decode cX9_swap 66 = .ok (.goto 4, 3) := by decide +kernel
theorem dX9_swap_69 : decode cX9_swap 69 = .ok (.iconst 0, 1) := by decide +kernel
theorem dX9_swap_70 : decode cX9_swap 70 = .ok (.invokevirtual 141, 3) := by decide +kernel
theorem dX9_swap_73 : decode cX9_swap 73 = .ok (.ifCond .eq 5, 3) := by decide +kernel
theorem dX9_swap_76 : decode cX9_swap 76 = .ok (.iconst 0, 1) := by decide +kernel
theorem dX9_swap_77 : decode cX9_swap 77 = .ok (.ireturn, 1) := by decide +kernel
theorem dX9_swap_78 : decode cX9_swap 78 = .ok (.aload_n 0, 1) := by decide +kernel
theorem dX9_swap_79 : decode cX9_swap 79 = .ok (.getfield 59, 3) := by decide +kernel
theorem dX9_swap_82 : decode cX9_swap 82 = .ok (.aload_n 0, 1) := by decide +kernel
theorem dX9_swap_83 : decode cX9_swap 83 = .ok (.getfield 109, 3) := by decide +kernel
theorem dX9_swap_86 : decode cX9_swap 86 = .ok (.iload_n 1, 1) := by decide +kernel
theorem dX9_swap_87 : decode cX9_swap 87 = .ok (.iastore, 1) := by decide +kernel
theorem dX9_swap_88 : decode cX9_swap 88 = .ok (.aload_n 0, 1) := by decide +kernel
theorem dX9_swap_89 : decode cX9_swap 89 = .ok (.getfield 62, 3) := by decide +kernel
theorem dX9_swap_92 : decode cX9_swap 92 = .ok (.aload_n 0, 1) := by decide +kernel
theorem dX9_swap_93 : decode cX9_swap 93 = .ok (.getfield 109, 3) := by decide +kernel
theorem dX9_swap_96 : decode cX9_swap 96 = .ok (.iload_n 2, 1) := by decide +kernel
theorem dX9_swap_97 : decode cX9_swap 97 = .ok (.iastore, 1) := by decide +kernel
theorem dX9_swap_98 : decode cX9_swap 98 = .ok (.aload_n 0, 1) := by decide +kernel
theorem dX9_swap_99 : decode cX9_swap 99 = .ok (.getfield 65, 3) := by decide +kernel
theorem dX9_swap_102 : decode cX9_swap 102 = .ok (.aload_n 0, 1) := by decide +kernel
theorem dX9_swap_103 : decode cX9_swap 103 = .ok (.getfield 109, 3) := by decide +kernel
theorem dX9_swap_106 : decode cX9_swap 106 = .ok (.aload_n 0, 1) := by decide +kernel
theorem dX9_swap_107 : decode cX9_swap 107 = .ok (.getfield 53, 3) := by decide +kernel
theorem dX9_swap_110 : decode cX9_swap 110 = .ok (.iload_n 1, 1) := by decide +kernel
theorem dX9_swap_111 : decode cX9_swap 111 = .ok (.iaload, 1) := by decide +kernel
theorem dX9_swap_112 : decode cX9_swap 112 = .ok (.iastore, 1) := by decide +kernel
theorem dX9_swap_113 : decode cX9_swap 113 = .ok (.aload_n 0, 1) := by decide +kernel
theorem dX9_swap_114 : decode cX9_swap 114 = .ok (.getfield 68, 3) := by decide +kernel
theorem dX9_swap_117 : decode cX9_swap 117 = .ok (.aload_n 0, 1) := by decide +kernel
theorem dX9_swap_118 : decode cX9_swap 118 = .ok (.getfield 109, 3) := by decide +kernel
theorem dX9_swap_121 : decode cX9_swap 121 = .ok (.aload_n 0, 1) := by decide +kernel
theorem dX9_swap_122 : decode cX9_swap 122 = .ok (.getfield 53, 3) := by decide +kernel
theorem dX9_swap_125 : decode cX9_swap 125 = .ok (.iload_n 2, 1) := by decide +kernel
theorem dX9_swap_126 : decode cX9_swap 126 = .ok (.iaload, 1) := by decide +kernel
theorem dX9_swap_127 : decode cX9_swap 127 = .ok (.iastore, 1) := by decide +kernel
theorem dX9_swap_128 : decode cX9_swap 128 = .ok (.aload_n 0, 1) := by decide +kernel
theorem dX9_swap_129 : decode cX9_swap 129 = .ok (.dup, 1) := by decide +kernel
theorem dX9_swap_130 : decode cX9_swap 130 = .ok (.getfield 109, 3) := by decide +kernel
theorem dX9_swap_133 : decode cX9_swap 133 = .ok (.iconst 1, 1) := by decide +kernel
theorem dX9_swap_134 : decode cX9_swap 134 = .ok (.iadd, 1) := by decide +kernel
theorem dX9_swap_135 : decode cX9_swap 135 = .ok (.putfield 109, 3) := by decide +kernel
theorem dX9_swap_138 : decode cX9_swap 138 = .ok (.aload_n 0, 1) := by decide +kernel
theorem dX9_swap_139 : decode cX9_swap 139 = .ok (.getfield 109, 3) := by decide +kernel
theorem dX9_swap_142 : decode cX9_swap 142 = .ok (.iconst 1, 1) := by decide +kernel
theorem dX9_swap_143 : decode cX9_swap 143 = .ok (.isub, 1) := by decide +kernel
theorem dX9_swap_144 : decode cX9_swap 144 = .ok (.ireturn, 1) := by decide +kernel
set_option maxRecDepth 20000 in
theorem ggX9_canSwap_X9_isOnOneDay : GoodIn wsX9_canSwap wsX9_isOnOneDay := goodIn_r _ [8] (by decide +kernel) (by decide +kernel)
set_option maxRecDepth 20000 in
theorem gX9_canSwap_X9_isOnOneDay : GoodIn wsX9_canSwap (va_wsS RX9 150 yX9_isOnOneDay wsX9_isOnOneDay) := goodIn_app (goodIn_of _ (by decide +kernel)) ggX9_canSwap_X9_isOnOneDay
set_option maxRecDepth 20000 in
theorem ggX9_canSwap_X9_canBe : GoodIn wsX9_canSwap wsX9_canBe := goodIn_r _ [12, 13, 14, 15, 7, 16, 17, 3, 18, 19, 20, 21, 22, 1, 2, 23, 24, 25, 26, 27, 28, 29, 30, 31, 32, 33, 34, 4, 35, 36, 37, 38, 39, 40, 41, 42, 43, 44, 45, 46, 47, 48, 49, 50, 51, 52, 53, 54, 55, 56, 57, 58, 59, 60, 61, 62, 63, 64, 65, 66, 67, 68, 69, 70, 71, 72, 73, 74, 75, 76, 77, 78, 79, 80, 81, 82, 83, 84] (by decide +kernel) (by decide +kernel)
set_option maxRecDepth 20000 in
theorem gX9_canSwap_X9_canBe : GoodIn wsX9_canSwap (wsV RX9 153 RX9 yX9_canBe wsX9_canBe) := goodIn_app (goodIn_of _ (by decide +kernel)) ggX9_canSwap_X9_canBe
theorem dX9_canSwap_0 : decode cX9_canSwap 0 = .ok (.aload_n 0, 1) := by decide +kernel
theorem dX9_canSwap_1 : decode cX9_canSwap 1 = .ok (.getfield 44, 3) := by decide +kernel
theorem dX9_canSwap_4 : decode cX9_canSwap 4 = .ok (.iload_n 1, 1) := by decide +kernel
theorem dX9_canSwap_5 : decode cX9_canSwap 5 = .ok (.iaload, 1) := by decide +kernel
theorem dX9_canSwap_6 : decode cX9_canSwap 6 = .ok (.istore_n 3, 1) := by decide +kernel
theorem dX9_canSwap_7 : decode cX9_canSwap 7 = .ok (.aload_n 0, 1) := by decide +kernel
theorem dX9_canSwap_8 : decode cX9_canSwap 8 = .ok (.getfield 44, 3) := by decide +kernel
theorem dX9_canSwap_11 : decode cX9_canSwap 11 = .ok (.iload_n 2, 1) := by decide +kernel
theorem dX9_canSwap_12 : decode cX9_canSwap 12 = .ok (.iaload, 1) := by decide +kernel
theorem dX9_canSwap_13 : decode cX9_canSwap 13 = .ok (.istore 4, 2) := by decide +kernel
theorem dX9_canSwap_15 : decode cX9_canSwap 15 = .ok (.aload_n 0, 1) := by decide +kernel
theorem dX9_canSwap_16 : decode cX9_canSwap 16 = .ok (.getfield 44, 3) := by decide +kernel
theorem dX9_canSwap_19 : decode cX9_canSwap 19 = .ok (.iload_n 1, 1) := by decide +kernel
theorem dX9_canSwap_20 : decode cX9_canSwap 20 = .ok (.iload 4, 2) := by decide +kernel
theorem dX9_canSwap_22 : decode cX9_canSwap 22 = .ok (.iastore, 1) := by decide +kernel
theorem dX9_canSwap_23 : decode cX9_canSwap 23 = .ok (.aload_n 0, 1) := by decide +kernel
theorem dX9_canSwap_24 : decode cX9_canSwap 24 = .ok (.getfield 44, 3) := by decide +kernel
theorem dX9_canSwap_27 : decode cX9_canSwap 27 = .ok (.iload_n 2, 1) := by decide +kernel
theorem dX9_canSwap_28 : decode cX9_canSwap 28 = .ok (.iload_n 3, 1) := by decide +kernel
theorem dX9_canSwap_29 : decode cX9_canSwap 29 = .ok (.iastore, 1) := by decide +kernel
theorem dX9_canSwap_30 : decode cX9_canSwap 30 = .ok (.iload 4, 2) := by decide +kernel
theorem dX9_canSwap_32 : decode cX9_canSwap 32 = .ok (.aload_n 0, 1) := by decide +kernel
theorem dX9_canSwap_33 : decode cX9_canSwap 33 = .ok (.getfield 47, 3) := by decide +kernel
theorem dX9_canSwap_36 : decode cX9_canSwap 36 = .ok (.iload_n 1, 1) := by decide +kernel
theorem dX9_canSwap_37 : decode cX9_canSwap 37 = .ok (.iaload, 1) := by decide +kernel
theorem dX9_canSwap_38 : decode cX9_canSwap 38 = .ok (.invokestatic 150, 3) := by decide +kernel
theorem dX9_canSwap_41 : decode cX9_canSwap 41 = .ok (.ifCond .eq 75, 3) := by decide +kernel
theorem dX9_canSwap_44 : decode cX9_canSwap 44 = .ok (.iload_n 3, 1) := by decide +kernel
theorem dX9_canSwap_45 : decode cX9_canSwap 45 = .ok (.aload_n 0, 1) := by decide +kernel
theorem dX9_canSwap_46 : decode cX9_canSwap 46 = .ok (.getfield 47, 3) := by decide +kernel
theorem dX9_canSwap_49 : decode cX9_canSwap 49 = .ok (.iload_n 2, 1) := by decide +kernel
theorem dX9_canSwap_50 : decode cX9_canSwap 50 = .ok (.iaload, 1) := by decide +kernel
theorem dX9_canSwap_51 : decode cX9_canSwap 51 = .ok (.invokestatic 150, 3) := by decide +kernel
theorem dX9_canSwap_54 : decode cX9_canSwap 54 = .ok (.ifCond .eq 62, 3) := by decide +kernel
theorem dX9_canSwap_57 : decode cX9_canSwap 57 = .ok (.aload_n 0, 1) := by decide +kernel
theorem dX9_canSwap_58 : decode cX9_canSwap 58 = .ok (.iload_n 1, 1) := by decide +kernel
theorem dX9_canSwap_59 : decode cX9_canSwap 59 = .ok (.aload_n 0, 1) := by decide +kernel
theorem dX9_canSwap_60 : decode cX9_canSwap 60 = .ok (.getfield 41, 3) := by decide +kernel
theorem dX9_canSwap_63 : decode cX9_canSwap 63 = .ok (.iload_n 1, 1) := by decide +kernel
theorem dX9_canSwap_64 : decode cX9_canSwap 64 = .ok (.iaload, 1) := by decide +kernel
theorem dX9_canSwap_65 : decode cX9_canSwap 65 = .ok (.iload 4, 2) := by decide +kernel
theorem dX9_canSwap_67 : decode cX9_canSwap 67 = .ok (.aload_n 0, 1) := by decide +kernel
theorem dX9_canSwap_68 : decode cX9_canSwap 68 = .ok (.getfield 47, 3) := by decide +kernel
theorem dX9_canSwap_71 : decode cX9_canSwap 71 = .ok (.iload_n 1, 1) := by decide +kernel
theorem dX9_canSwap_72 : decode cX9_canSwap 72 = .ok (.iaload, 1) := by decide +kernel
theorem dX9_canSwap_73 : decode cX9_canSwap 73 = .ok (.aload_n 0, 1) := by decide +kernel
theorem dX9_canSwap_74 : decode cX9_canSwap 74 = .ok (.getfield 50, 3) := by decide +kernel
theorem dX9_canSwap_77 : decode cX9_canSwap 77 = .ok (.iload_n 1, 1) := by decide +kernel
theorem dX9_canSwap_78 : decode cX9_canSwap 78 = .ok (.iaload, 1) := by decide +kernel
theorem dX9_canSwap_79 : decode cX9_canSwap 79 = .ok (.invokevirtual 153, 3) := by decide +kernel
theorem dX9_canSwap_82 : decode cX9_canSwap 82 = .ok (.ifCond .eq 34, 3) := by decide +kernel
theorem dX9_canSwap_85 : decode cX9_canSwap 85 = .ok (.aload_n 0, 1) := by decide +kernel
theorem dX9_canSwap_86 : decode cX9_canSwap 86 = .ok (.iload_n 2, 1) := by decide +kernel
theorem dX9_canSwap_87 : decode cX9_canSwap 87 = .ok (.aload_n 0, 1) := by decide +kernel
theorem dX9_canSwap_88 : decode cX9_canSwap 88 = .ok (.getfield 41, 3) := by decide +kernel
theorem dX9_canSwap_91 : decode cX9_canSwap 91 = .ok (.iload_n 2, 1) := by decide +kernel
theorem dX9_canSwap_92 : decode cX9_canSwap 92 = .ok (.iaload, 1) := by decide +kernel
theorem dX9_canSwap_93 : decode cX9_canSwap 93 = .ok (.iload_n 3, 1) := by decide +kernel
theorem dX9_canSwap_94 : decode cX9_canSwap 94 = .ok (.aload_n 0, 1) := by decide +kernel
theorem dX9_canSwap_95 : decode cX9_canSwap 95 = .ok (.getfield 47, 3) := by decide +kernel
theorem dX9_canSwap_98 : decode cX9_canSwap 98 = .ok (.iload_n 2, 1) := by decide +kernel
theorem dX9_canSwap_99 : decode cX9_canSwap 99 = .ok (.iaload, 1) := by decide +kernel
theorem dX9_canSwap_100 : decode cX9_canSwap 100 = .ok (.aload_n 0, 1) := by decide +kernel
theorem dX9_canSwap_101 : decode cX9_canSwap 101 = .ok (.getfield 50, 3) := by decide +kernel
theorem dX9_canSwap_104 : decode cX9_canSwap 104 = .ok (.iload_n 2, 1) := by decide +kernel
theorem dX9_canSwap_105 : decode cX9_canSwap 105 = .ok (.iaload, 1) := by decide +kernel
theorem dX9_canSwap_106 : decode cX9_canSwap 106 = .ok (.invokevirtual 153, 3) := by decide +kernel
theorem dX9_canSwap_109 : decode cX9_canSwap 109 = .ok (.ifCond .eq 7, 3) := by decide +kernel
theorem dX9_canSwap_112 : decode cX9_canSwap 112 = .ok (.iconst 1, 1) := by decide +kernel
theorem dX9_canSwap_113 : decode cX9_canSwap 113 = .ok (.goto 4, 3) := by decide +kernel
theorem dX9_canSwap_116 : decode cX9_canSwap 116 = .ok (.iconst 0, 1) := by decide +kernel
theorem dX9_canSwap_117 : decode cX9_canSwap 117 = .ok (.istore 5, 2) := by decide +kernel
theorem dX9_canSwap_119 : decode cX9_canSwap 119 = .ok (.iload 5, 2) := by decide +kernel
theorem dX9_canSwap_121 : decode cX9_canSwap 121 = .ok (.ifCond .ne 18, 3) := by decide +kernel
theorem dX9_canSwap_124 : decode cX9_canSwap 124 = .ok (.aload_n 0, 1) := by decide +kernel
theorem dX9_canSwap_125 : decode cX9_canSwap 125 = .ok (.getfield 44, 3) := by decide +kernel
theorem dX9_canSwap_128 : decode cX9_canSwap 128 = .ok (.iload_n 1, 1) := by decide +kernel
theorem dX9_canSwap_129 : decode cX9_canSwap 129 = .ok (.iload_n 3, 1) := by decide +kernel
theorem dX9_canSwap_130 : decode cX9_canSwap 130 = .ok (.iastore, 1) := by decide +kernel
theorem dX9_canSwap_131 : decode cX9_canSwap 131 = .ok (.aload_n 0, 1) := by decide +kernel
theorem dX9_canSwap_132 : decode cX9_canSwap 132 = .ok (.getfield 44, 3) := by decide +kernel
theorem dX9_canSwap_135 : decode cX9_canSwap 135 = .ok (.iload_n 2, 1) := by decide +kernel
theorem dX9_canSwap_136 : decode cX9_canSwap 136 = .ok (.iload 4, 2) := by decide +kernel
theorem dX9_canSwap_138 : decode cX9_canSwap 138 = .ok (.iastore, 1) := by decide +kernel
theorem dX9_canSwap_139 : decode cX9_canSwap 139 = .ok (.iload 5, 2) := by decide +kernel
theorem dX9_canSwap_141 : decode cX9_canSwap 141 = .ok (.ireturn, 1) := by decide +kernel
set_option maxRecDepth 20000 in
theorem ggX9_agree_X9_isPerson : GoodIn wsX9_agree wsX9_isPerson := goodIn_r _ [12, 13, 14, 11, 15] (by decide +kernel) (by decide +kernel)
set_option maxRecDepth 20000 in
theorem gX9_agree_X9_isPerson : GoodIn wsX9_agree (va_wsS RX9 137 yX9_isPerson wsX9_isPerson) := goodIn_app (goodIn_of _ (by decide +kernel)) ggX9_agree_X9_isPerson
set_option maxRecDepth 20000 in
theorem ggX9_agree_X9_isSwap : GoodIn wsX9_agree wsX9_isSwap := goodIn_r _ [19, 20, 13, 14, 11, 15, 79, 80, 81, 82, 83, 84, 85, 86, 87, 88, 89, 90, 91, 92, 93, 94, 95, 96, 97, 98, 99, 100, 101, 102, 103, 104, 105, 106, 107, 108, 109, 110, 111, 112, 113] (by decide +kernel) (by decide +kernel)
set_option maxRecDepth 20000 in
theorem gX9_agree_X9_isSwap : GoodIn wsX9_agree (wsV RX9 163 RX9 yX9_isSwap wsX9_isSwap) := goodIn_app (goodIn_of _ (by decide +kernel)) ggX9_agree_X9_isSwap
set_option maxRecDepth 20000 in
theorem ggX9_agree_X9_refused : GoodIn wsX9_agree wsX9_refused := goodIn_r _ [24, 25, 79, 80, 81, 82, 83, 84, 85, 86, 87, 88, 89, 90, 91, 92, 93, 94, 95, 96, 97, 98, 99, 100, 101, 102, 103, 104, 105, 106, 107, 108, 109, 110, 111, 112, 113] (by decide +kernel) (by decide +kernel)
set_option maxRecDepth 20000 in
theorem gX9_agree_X9_refused : GoodIn wsX9_agree (wsV RX9 141 RX9 yX9_refused wsX9_refused) := goodIn_app (goodIn_of _ (by decide +kernel)) ggX9_agree_X9_refused
set_option maxRecDepth 20000 in
theorem ggX9_agree_X9_isAhead : GoodIn wsX9_agree wsX9_isAhead := goodIn_r _ [29, 30, 31, 32, 79, 80, 81, 82, 83, 84, 85, 86, 87, 88, 89, 90, 91, 92, 93, 94, 95, 96, 97, 98, 99, 100, 101, 102, 103, 104, 105, 106, 107, 108, 109, 110, 111, 112, 113] (by decide +kernel) (by decide +kernel)
set_option maxRecDepth 20000 in
theorem gX9_agree_X9_isAhead : GoodIn wsX9_agree (wsV RX9 160 RX9 yX9_isAhead wsX9_isAhead) := goodIn_app (goodIn_of _ (by decide +kernel)) ggX9_agree_X9_isAhead
set_option maxRecDepth 20000 in
theorem ggX9_agree_X9_canSwap : GoodIn wsX9_agree wsX9_canSwap := goodIn_r _ [36, 31, 37, 1, 38, 39, 40, 11, 41, 42, 43, 44, 45, 46, 47, 48, 49, 50, 51, 52, 53, 54, 30, 13, 14, 15, 55, 56, 57, 58, 59, 60, 61, 62, 63, 64, 65, 66, 67, 68, 69, 70, 71, 72, 73, 74, 75, 76, 77, 78, 79, 80, 81, 82, 83, 84, 85, 86, 87, 88, 89, 90, 91, 92, 93, 94, 95, 96, 97, 98, 99, 100, 101, 102, 103, 104, 105, 106, 107, 108, 109, 110, 111, 112, 113] (by decide +kernel) (by decide +kernel)
set_option maxRecDepth 20000 in
theorem gX9_agree_X9_canSwap : GoodIn wsX9_agree (wsV RX9 166 RX9 yX9_canSwap wsX9_canSwap) := goodIn_app (goodIn_of _ (by decide +kernel)) ggX9_agree_X9_canSwap
theorem dX9_agree_0 : decode cX9_agree 0 = .ok (.iload_n 1, 1) := by decide +kernel
theorem dX9_agree_1 : decode cX9_agree 1 = .ok (.invokestatic 137, 3) := by decide +kernel
theorem dX9_agree_4 : decode cX9_agree 4 = .ok (.ifCond .eq 15, 3) := by decide +kernel
theorem dX9_agree_7 : decode cX9_agree 7 = .ok (.aload_n 0, 1) := by decide +kernel
theorem dX9_agree_8 : decode cX9_agree 8 = .ok (.iload_n 2, 1) := by decide +kernel
theorem dX9_agree_9 : decode cX9_agree 9 = .ok (.invokevirtual 163, 3) := by decide +kernel
theorem dX9_agree_12 : decode cX9_agree 12 = .ok (.ifCond .eq 7, 3) := by decide +kernel
theorem dX9_agree_15 : decode cX9_agree 15 = .ok (.iconst 1, 1) := by decide +kernel
theorem dX9_agree_16 : decode cX9_agree 16 = .ok (.goto 4, 3) := by decide +kernel
theorem dX9_agree_19 : decode cX9_agree 19 = .ok (.iconst 0, 1) := by decide +kernel
theorem dX9_agree_20 : decode cX9_agree 20 = .ok (.istore_n 3, 1) := by decide +kernel
theorem dX9_agree_21 : decode cX9_agree 21 = .ok (.iload_n 3, 1) := by decide +kernel
theorem dX9_agree_22 : decode cX9_agree 22 = .ok (.ifCond .eq 29, 3) := by decide +kernel
theorem dX9_agree_25 : decode cX9_agree 25 = .ok (.aload_n 0, 1) := by decide +kernel
theorem dX9_agree_26 : decode cX9_agree 26 = .ok (.getfield 41, 3) := by decide +kernel
theorem dX9_agree_29 : decode cX9_agree 29 = .ok (.aload_n 0, 1) := by decide +kernel
theorem dX9_agree_30 : decode cX9_agree 30 = .ok (.getfield 59, 3) := by decide +kernel
theorem dX9_agree_33 : decode cX9_agree 33 = .ok (.iload_n 2, 1) := by decide +kernel
theorem dX9_agree_34 : decode cX9_agree 34 = .ok (.iaload, 1) := by decide +kernel
theorem dX9_agree_35 : decode cX9_agree 35 = .ok (.iaload, 1) := by decide +kernel
theorem dX9_agree_36 : decode cX9_agree 36 = .ok (.aload_n 0, 1) := by decide +kernel
theorem dX9_agree_37 : decode cX9_agree 37 = .ok (.getfield 41, 3) := by decide +kernel
theorem dX9_agree_40 : decode cX9_agree 40 = .ok (.aload_n 0, 1) := by decide +kernel
theorem dX9_agree_41 : decode cX9_agree 41 = .ok (.getfield 62, 3) := by decide +kernel
theorem dX9_agree_44 : decode cX9_agree 44 = .ok (.iload_n 2, 1) := by decide +kernel
theorem dX9_agree_45 : decode cX9_agree 45 = .ok (.iaload, 1) := by decide +kernel
theorem dX9_agree_46 : decode cX9_agree 46 = .ok (.iaload, 1) := by decide +kernel
theorem dX9_agree_47 : decode cX9_agree 47 = .ok (.ior, 1) := by decide +kernel
theorem dX9_agree_48 : decode cX9_agree 48 = .ok (.goto 4, 3) := by decide +kernel
theorem dX9_agree_51 : decode cX9_agree 51 = .ok (.iconst 0, 1) := by decide +kernel
theorem dX9_agree_52 : decode cX9_agree 52 = .ok (.istore 4, 2) := by decide +kernel
theorem dX9_agree_54 : decode cX9_agree 54 = .ok (.aload_n 0, 1) := by decide +kernel
theorem dX9_agree_55 : decode cX9_agree 55 = .ok (.iload_n 3, 1) := by decide +kernel
theorem dX9_agree_56 : decode cX9_agree 56 = .ok (.ifCond .ne 7, 3) := by decide +kernel
theorem dX9_agree_59 : decode cX9_agree 59 = .ok (.iconst 1, 1) := by decide +kernel
theorem dX9_agree_60 : decode cX9_agree 60 = .ok (.goto 26, 3) := by decide +kernel
theorem dX9_agree_63 : decode cX9_agree 63 = .ok (.aload_n 0, 1) := by decide +kernel
theorem dX9_agree_64 : decode cX9_agree 64 = .ok (.getfield 56, 3) := by decide +kernel
theorem dX9_agree_67 : decode cX9_agree 67 = .ok (.iload_n 2, 1) := by decide +kernel
theorem dX9_agree_68 : decode cX9_agree 68 = .ok (.iaload, 1) := by decide +kernel
theorem dX9_agree_69 : decode cX9_agree 69 = .ok (.ifCond .ne 12, 3) := by decide +kernel
theorem dX9_agree_72 : decode cX9_agree 72 = .ok (.iload 4, 2) := by decide +kernel
theorem dX9_agree_74 : decode cX9_agree 74 = .ok (.iload_n 1, 1) := by decide +kernel
theorem dX9_agree_75 : decode cX9_agree 75 = .ok (.ishr, 1) := by decide +kernel
theorem dX9_agree_76 : decode cX9_agree 76 = .ok (.iconst 1, 1) := by decide +kernel
theorem dX9_agree_77 : decode cX9_agree 77 = .ok (.iand, 1) := by decide +kernel
theorem dX9_agree_78 : decode cX9_agree 78 = .ok (.ifCond .ne 7, 3) := by decide +kernel
theorem dX9_agree_81 : decode cX9_agree 81 = .ok (.iconst 2, 1) := by decide +kernel
theorem dX9_agree_82 : decode cX9_agree 82 = .ok (.goto 4, 3) := by decide +kernel
theorem dX9_agree_85 : decode cX9_agree 85 = .ok (.iconst 0, 1) := by decide +kernel
theorem dX9_agree_86 : decode cX9_agree 86 = .ok (.invokevirtual 141, 3) := by decide +kernel
theorem dX9_agree_89 : decode cX9_agree 89 = .ok (.ifCond .eq 5, 3) := by decide +kernel
theorem dX9_agree_92 : decode cX9_agree 92 = .ok (.iconst 0, 1) := by decide +kernel
theorem dX9_agree_93 : decode cX9_agree 93 = .ok (.ireturn, 1) := by decide +kernel
theorem dX9_agree_94 : decode cX9_agree 94 = .ok (.aload_n 0, 1) := by decide +kernel
theorem dX9_agree_95 : decode cX9_agree 95 = .ok (.getfield 59, 3) := by decide +kernel
theorem dX9_agree_98 : decode cX9_agree 98 = .ok (.iload_n 2, 1) := by decide +kernel
theorem dX9_agree_99 : decode cX9_agree 99 = .ok (.iaload, 1) := by decide +kernel
theorem dX9_agree_100 : decode cX9_agree 100 = .ok (.istore 5, 2) := by decide +kernel
theorem dX9_agree_102 : decode cX9_agree 102 = .ok (.aload_n 0, 1) := by decide +kernel
theorem dX9_agree_103 : decode cX9_agree 103 = .ok (.getfield 62, 3) := by decide +kernel
theorem dX9_agree_106 : decode cX9_agree 106 = .ok (.iload_n 2, 1) := by decide +kernel
theorem dX9_agree_107 : decode cX9_agree 107 = .ok (.iaload, 1) := by decide +kernel
theorem dX9_agree_108 : decode cX9_agree 108 = .ok (.istore 6, 2) := by decide +kernel
theorem dX9_agree_110 : decode cX9_agree 110 = .ok (.aload_n 0, 1) := by decide +kernel
theorem dX9_agree_111 : decode cX9_agree 111 = .ok (.iload 5, 2) := by decide +kernel
theorem dX9_agree_113 : decode cX9_agree 113 = .ok (.invokevirtual 160, 3) := by decide +kernel
theorem dX9_agree_116 : decode cX9_agree 116 = .ok (.ifCond .eq 44, 3) := by decide +kernel
theorem dX9_agree_119 : decode cX9_agree 119 = .ok (.aload_n 0, 1) := by decide +kernel
theorem dX9_agree_120 : decode cX9_agree 120 = .ok (.iload 6, 2) := by decide +kernel
theorem dX9_agree_122 : decode cX9_agree 122 = .ok (.invokevirtual 160, 3) := by decide +kernel
theorem dX9_agree_125 : decode cX9_agree 125 = .ok (.ifCond .eq 35, 3) := by decide +kernel
theorem dX9_agree_128 : decode cX9_agree 128 = .ok (.aload_n 0, 1) := by decide +kernel
theorem dX9_agree_129 : decode cX9_agree 129 = .ok (.getfield 53, 3) := by decide +kernel
theorem dX9_agree_132 : decode cX9_agree 132 = .ok (.iload 5, 2) := by decide +kernel
theorem dX9_agree_134 : decode cX9_agree 134 = .ok (.iaload, 1) := by decide +kernel
theorem dX9_agree_135 : decode cX9_agree 135 = .ok (.aload_n 0, 1) := by decide +kernel
theorem dX9_agree_136 : decode cX9_agree 136 = .ok (.getfield 65, 3) := by decide +kernel
theorem dX9_agree_139 : decode cX9_agree 139 = .ok (.iload_n 2, 1) := by decide +kernel
theorem dX9_agree_140 : decode cX9_agree 140 = .ok (.iaload, 1) := by decide +kernel
theorem dX9_agree_141 : decode cX9_agree 141 = .ok (.if_icmp .ne 19, 3) := by decide +kernel
theorem dX9_agree_144 : decode cX9_agree 144 = .ok (.aload_n 0, 1) := by decide +kernel
theorem dX9_agree_145 : decode cX9_agree 145 = .ok (.getfield 53, 3) := by decide +kernel
theorem dX9_agree_148 : decode cX9_agree 148 = .ok (.iload 6, 2) := by decide +kernel
theorem dX9_agree_150 : decode cX9_agree 150 = .ok (.iaload, 1) := by decide +kernel
theorem dX9_agree_151 : decode cX9_agree 151 = .ok (.aload_n 0, 1) := by decide +kernel
theorem dX9_agree_152 : decode cX9_agree 152 = .ok (.getfield 68, 3) := by decide +kernel
theorem dX9_agree_155 : decode cX9_agree 155 = .ok (.iload_n 2, 1) := by decide +kernel
theorem dX9_agree_156 : decode cX9_agree 156 = .ok (.iaload, 1) := by decide +kernel
theorem dX9_agree_157 : decode cX9_agree 157 = .ok (.if_icmp .eq 12, 3) := by decide +kernel
theorem dX9_agree_160 : decode cX9_agree 160 = .ok (.aload_n 0, 1) := by decide +kernel
theorem dX9_agree_161 : decode cX9_agree 161 = .ok (.getfield 56, 3) := by decide +kernel
theorem dX9_agree_164 : decode cX9_agree 164 = .ok (.iload_n 2, 1) := by decide +kernel
theorem dX9_agree_165 : decode cX9_agree 165 = .ok (.iconst 2, 1) := by decide +kernel
theorem dX9_agree_166 : decode cX9_agree 166 = .ok (.iastore, 1) := by decide +kernel
theorem dX9_agree_167 : decode cX9_agree 167 = .ok (.iconst 2, 1) := by decide +kernel
theorem dX9_agree_168 : decode cX9_agree 168 = .ok (.ireturn, 1) := by decide +kernel
theorem dX9_agree_169 : decode cX9_agree 169 = .ok (.aload_n 0, 1) := by decide +kernel
theorem dX9_agree_170 : decode cX9_agree 170 = .ok (.getfield 71, 3) := by decide +kernel
theorem dX9_agree_173 : decode cX9_agree 173 = .ok (.iload_n 2, 1) := by decide +kernel
theorem dX9_agree_174 : decode cX9_agree 174 = .ok (.dup2, 1) := by decide +kernel
theorem dX9_agree_175 : decode cX9_agree 175 = .ok (.iaload, 1) := by decide +kernel
theorem dX9_agree_176 : decode cX9_agree 176 = .ok (.iconst 1, 1) := by decide +kernel
theorem dX9_agree_177 : decode cX9_agree 177 = .ok (.iload_n 1, 1) := by decide +kernel
theorem dX9_agree_178 : decode cX9_agree 178 = .ok (.ishl, 1) := by decide +kernel
theorem dX9_agree_179 : decode cX9_agree 179 = .ok (.ior, 1) := by decide +kernel
theorem dX9_agree_180 : decode cX9_agree 180 = .ok (.iastore, 1) := by decide +kernel
theorem dX9_agree_181 : decode cX9_agree 181 = .ok (.aload_n 0, 1) := by decide +kernel
theorem dX9_agree_182 : decode cX9_agree 182 = .ok (.getfield 71, 3) := by decide +kernel
theorem dX9_agree_185 : decode cX9_agree 185 = .ok (.iload_n 2, 1) := by decide +kernel
theorem dX9_agree_186 : decode cX9_agree 186 = .ok (.iaload, 1) := by decide +kernel
theorem dX9_agree_187 : decode cX9_agree 187 = .ok (.iload 4, 2) := by decide +kernel
theorem dX9_agree_189 : decode cX9_agree 189 = .ok (.if_icmp .ne 75, 3) := by decide +kernel
theorem dX9_agree_192 : decode cX9_agree 192 = .ok (.aload_n 0, 1) := by decide +kernel
theorem dX9_agree_193 : decode cX9_agree 193 = .ok (.getfield 56, 3) := by decide +kernel
theorem dX9_agree_196 : decode cX9_agree 196 = .ok (.iload_n 2, 1) := by decide +kernel
theorem dX9_agree_197 : decode cX9_agree 197 = .ok (.aload_n 0, 1) := by decide +kernel
theorem dX9_agree_198 : decode cX9_agree 198 = .ok (.iload 5, 2) := by decide +kernel
theorem dX9_agree_200 : decode cX9_agree 200 = .ok (.iload 6, 2) := by decide +kernel
theorem dX9_agree_202 : decode cX9_agree 202 = .ok (.invokevirtual 166, 3) := by decide +kernel
theorem dX9_agree_205 : decode cX9_agree 205 = .ok (.ifCond .eq 7, 3) := by decide +kernel
theorem dX9_agree_208 : decode cX9_agree 208 = .ok (.iconst 1, 1) := by decide +kernel
theorem dX9_agree_209 : decode cX9_agree 209 = .ok (.goto 4, 3) := by decide +kernel
theorem dX9_agree_212 : decode cX9_agree 212 = .ok (.iconst 2, 1) := by decide +kernel
theorem dX9_agree_213 : decode cX9_agree 213 = .ok (.iastore, 1) := by decide +kernel
theorem dX9_agree_214 : decode cX9_agree 214 = .ok (.aload_n 0, 1) := by decide +kernel
theorem dX9_agree_215 : decode cX9_agree 215 = .ok (.getfield 53, 3) := by decide +kernel
theorem dX9_agree_218 : decode cX9_agree 218 = .ok (.iload 5, 2) := by decide +kernel
theorem dX9_agree_220 : decode cX9_agree 220 = .ok (.dup2, 1) := by decide +kernel
theorem dX9_agree_221 : decode cX9_agree 221 = .ok (.iaload, 1) := by decide +kernel
theorem dX9_agree_222 : decode cX9_agree 222 = .ok (.aload_n 0, 1) := by decide +kernel
theorem dX9_agree_223 : decode cX9_agree 223 = .ok (.getfield 56, 3) := by decide +kernel
theorem dX9_agree_226 : decode cX9_agree 226 = .ok (.iload_n 2, 1) := by decide +kernel
theorem dX9_agree_227 : decode cX9_agree 227 = .ok (.iaload, 1) := by decide +kernel
theorem dX9_agree_228 : decode cX9_agree 228 = .ok (.iconst 1, 1) := by decide +kernel
theorem dX9_agree_229 : decode cX9_agree 229 = .ok (.if_icmp .ne 7, 3) := by decide +kernel
theorem dX9_agree_232 : decode cX9_agree 232 = .ok (.iconst 1, 1) := by decide +kernel
theorem dX9_agree_233 : decode cX9_agree 233 = .ok (.goto 4, 3) := by decide +kernel
theorem dX9_agree_236 : decode cX9_agree 236 = .ok (.iconst 0, 1) := by decide +kernel
theorem dX9_agree_237 : decode cX9_agree 237 = .ok (.iadd, 1) := by decide +kernel
theorem dX9_agree_238 : decode cX9_agree 238 = .ok (.iastore, 1) := by decide +kernel
theorem dX9_agree_239 : decode cX9_agree 239 = .ok (.aload_n 0, 1) := by decide +kernel
theorem dX9_agree_240 : decode cX9_agree 240 = .ok (.getfield 53, 3) := by decide +kernel
theorem dX9_agree_243 : decode cX9_agree 243 = .ok (.iload 6, 2) := by decide +kernel
theorem dX9_agree_245 : decode cX9_agree 245 = .ok (.dup2, 1) := by decide +kernel
theorem dX9_agree_246 : decode cX9_agree 246 = .ok (.iaload, 1) := by decide +kernel
theorem dX9_agree_247 : decode cX9_agree 247 = .ok (.aload_n 0, 1) := by decide +kernel
theorem dX9_agree_248 : decode cX9_agree 248 = .ok (.getfield 56, 3) := by decide +kernel
theorem dX9_agree_251 : decode cX9_agree 251 = .ok (.iload_n 2, 1) := by decide +kernel
theorem dX9_agree_252 : decode cX9_agree 252 = .ok (.iaload, 1) := by decide +kernel
theorem dX9_agree_253 : decode cX9_agree 253 = .ok (.iconst 1, 1) := by decide +kernel
theorem dX9_agree_254 : decode cX9_agree 254 = .ok (.if_icmp .ne 7, 3) := by decide +kernel
theorem dX9_agree_257 : decode cX9_agree 257 = .ok (.iconst 1, 1) := by decide +kernel
theorem dX9_agree_258 : decode cX9_agree 258 = .ok (.goto 4, 3) := by decide +kernel
theorem dX9_agree_261 : decode cX9_agree 261 = .ok (.iconst 0, 1) := by decide +kernel
theorem dX9_agree_262 : decode cX9_agree 262 = .ok (.iadd, 1) := by decide +kernel
theorem dX9_agree_263 : decode cX9_agree 263 = .ok (.iastore, 1) := by decide +kernel
theorem dX9_agree_264 : decode cX9_agree 264 = .ok (.aload_n 0, 1) := by decide +kernel
theorem dX9_agree_265 : decode cX9_agree 265 = .ok (.getfield 56, 3) := by decide +kernel
theorem dX9_agree_268 : decode cX9_agree 268 = .ok (.iload_n 2, 1) := by decide +kernel
theorem dX9_agree_269 : decode cX9_agree 269 = .ok (.iaload, 1) := by decide +kernel
theorem dX9_agree_270 : decode cX9_agree 270 = .ok (.ireturn, 1) := by decide +kernel
set_option maxRecDepth 20000 in
theorem ggX9_build_X9_in : GoodIn wsX9_build wsX9_in := goodIn_r _ [10] (by decide +kernel) (by decide +kernel)
set_option maxRecDepth 20000 in
theorem gX9_build_X9_in : GoodIn wsX9_build (va_wsS RX9 99 yX9_in wsX9_in) := goodIn_app (goodIn_of _ (by decide +kernel)) ggX9_build_X9_in
set_option maxRecDepth 20000 in
theorem ggX9_build_X9_refused : GoodIn wsX9_build wsX9_refused := goodIn_r _ [14, 15, 16, 17, 18, 19, 20, 21, 22, 23, 24, 25, 26, 27, 28, 29, 30, 31, 32, 33, 34, 35, 36, 37, 38, 39, 40, 41, 42, 43, 44, 45, 46, 47, 48, 49, 50] (by decide +kernel) (by decide +kernel)
set_option maxRecDepth 20000 in
theorem gX9_build_X9_refused : GoodIn wsX9_build (wsV RX9 141 RX9 yX9_refused wsX9_refused) := goodIn_app (goodIn_of _ (by decide +kernel)) ggX9_build_X9_refused
theorem dX9_build_0 : decode cX9_build 0 = .ok (.iload_n 1, 1) := by decide +kernel
theorem dX9_build_1 : decode cX9_build 1 = .ok (.iconst 0, 1) := by decide +kernel
theorem dX9_build_2 : decode cX9_build 2 = .ok (.bipush 15, 2) := by decide +kernel
theorem dX9_build_4 : decode cX9_build 4 = .ok (.invokestatic 99, 3) := by decide +kernel
theorem dX9_build_7 : decode cX9_build 7 = .ok (.ifCond .eq 27, 3) := by decide +kernel
theorem dX9_build_10 : decode cX9_build 10 = .ok (.iload_n 2, 1) := by decide +kernel
theorem dX9_build_11 : decode cX9_build 11 = .ok (.iconst 0, 1) := by decide +kernel
theorem dX9_build_12 : decode cX9_build 12 = .ok (.bipush 9, 2) := by decide +kernel
theorem dX9_build_14 : decode cX9_build 14 = .ok (.invokestatic 99, 3) := by decide +kernel
theorem dX9_build_17 : decode cX9_build 17 = .ok (.ifCond .eq 17, 3) := by decide +kernel
theorem dX9_build_20 : decode cX9_build 20 = .ok (.iload_n 3, 1) := by decide +kernel
theorem dX9_build_21 : decode cX9_build 21 = .ok (.iconst 1, 1) := by decide +kernel
theorem dX9_build_22 : decode cX9_build 22 = .ok (.bipush 6, 2) := by decide +kernel
theorem dX9_build_24 : decode cX9_build 24 = .ok (.invokestatic 99, 3) := by decide +kernel
theorem dX9_build_27 : decode cX9_build 27 = .ok (.ifCond .eq 7, 3) := by decide +kernel
theorem dX9_build_30 : decode cX9_build 30 = .ok (.iconst 1, 1) := by decide +kernel
theorem dX9_build_31 : decode cX9_build 31 = .ok (.goto 4, 3) := by decide +kernel
theorem dX9_build_34 : decode cX9_build 34 = .ok (.iconst 0, 1) := by decide +kernel
theorem dX9_build_35 : decode cX9_build 35 = .ok (.istore 4, 2) := by decide +kernel
theorem dX9_build_37 : decode cX9_build 37 = .ok (.aload_n 0, 1) := by decide +kernel
theorem dX9_build_38 : decode cX9_build 38 = .ok (.iload 4, 2) := by decide +kernel
theorem dX9_build_40 : decode cX9_build 40 = .ok (.ifCond .ne 7, 3) := by decide +kernel
theorem dX9_build_43 : decode cX9_build 43 = .ok (.iconst 1, 1) := by decide +kernel
theorem dX9_build_44 : decode cX9_build 44 = .ok (.goto 17, 3) := by decide +kernel
theorem dX9_build_47 : decode cX9_build 47 = .ok (.aload_n 0, 1) := by decide +kernel
theorem dX9_build_48 : decode cX9_build 48 = .ok (.getfield 112, 3) := by decide +kernel
theorem dX9_build_51 : decode cX9_build 51 = .ok (.bipush 40, 2) := by decide +kernel
theorem dX9_build_53 : decode cX9_build 53 = .ok (.if_icmp .ne 7, 3) := by decide +kernel
theorem dX9_build_56 : decode cX9_build 56 = .ok (.iconst 2, 1) := by decide +kernel
theorem dX9_build_57 : decode cX9_build 57 = .ok (.goto 4, 3) := by decide +kernel
theorem dX9_build_60 : decode cX9_build 60 = .ok (.iconst 0, 1) := by decide +kernel
theorem dX9_build_61 : decode cX9_build 61 = .ok (.invokevirtual 141, 3) := by decide +kernel
theorem dX9_build_64 : decode cX9_build 64 = .ok (.ifCond .eq 5, 3) := by decide +kernel
theorem dX9_build_67 : decode cX9_build 67 = .ok (.iconst 0, 1) := by decide +kernel
theorem dX9_build_68 : decode cX9_build 68 = .ok (.ireturn, 1) := by decide +kernel
theorem dX9_build_69 : decode cX9_build 69 = .ok (.aload_n 0, 1) := by decide +kernel
theorem dX9_build_70 : decode cX9_build 70 = .ok (.getfield 77, 3) := by decide +kernel
theorem dX9_build_73 : decode cX9_build 73 = .ok (.aload_n 0, 1) := by decide +kernel
theorem dX9_build_74 : decode cX9_build 74 = .ok (.getfield 112, 3) := by decide +kernel
theorem dX9_build_77 : decode cX9_build 77 = .ok (.iload_n 1, 1) := by decide +kernel
theorem dX9_build_78 : decode cX9_build 78 = .ok (.iastore, 1) := by decide +kernel
theorem dX9_build_79 : decode cX9_build 79 = .ok (.aload_n 0, 1) := by decide +kernel
theorem dX9_build_80 : decode cX9_build 80 = .ok (.getfield 80, 3) := by decide +kernel
theorem dX9_build_83 : decode cX9_build 83 = .ok (.aload_n 0, 1) := by decide +kernel
theorem dX9_build_84 : decode cX9_build 84 = .ok (.getfield 112, 3) := by decide +kernel
theorem dX9_build_87 : decode cX9_build 87 = .ok (.iload_n 2, 1) := by decide +kernel
theorem dX9_build_88 : decode cX9_build 88 = .ok (.iastore, 1) := by decide +kernel
theorem dX9_build_89 : decode cX9_build 89 = .ok (.aload_n 0, 1) := by decide +kernel
theorem dX9_build_90 : decode cX9_build 90 = .ok (.getfield 83, 3) := by decide +kernel
theorem dX9_build_93 : decode cX9_build 93 = .ok (.aload_n 0, 1) := by decide +kernel
theorem dX9_build_94 : decode cX9_build 94 = .ok (.getfield 112, 3) := by decide +kernel
theorem dX9_build_97 : decode cX9_build 97 = .ok (.iload_n 3, 1) := by decide +kernel
theorem dX9_build_98 : decode cX9_build 98 = .ok (.iastore, 1) := by decide +kernel
theorem dX9_build_99 : decode cX9_build 99 = .ok (.aload_n 0, 1) := by decide +kernel
theorem dX9_build_100 : decode cX9_build 100 = .ok (.getfield 86, 3) := by decide +kernel
theorem dX9_build_103 : decode cX9_build 103 = .ok (.aload_n 0, 1) := by decide +kernel
theorem dX9_build_104 : decode cX9_build 104 = .ok (.getfield 112, 3) := by decide +kernel
theorem dX9_build_107 : decode cX9_build 107 = .ok (.iconst (-1), 1) := by decide +kernel
theorem dX9_build_108 : decode cX9_build 108 = .ok (.iastore, 1) := by decide +kernel
theorem dX9_build_109 : decode cX9_build 109 = .ok (.aload_n 0, 1) := by decide +kernel
theorem dX9_build_110 : decode cX9_build 110 = .ok (.getfield 89, 3) := by decide +kernel
theorem dX9_build_113 : decode cX9_build 113 = .ok (.aload_n 0, 1) := by decide +kernel
theorem dX9_build_114 : decode cX9_build 114 = .ok (.getfield 112, 3) := by decide +kernel
theorem dX9_build_117 : decode cX9_build 117 = .ok (.iconst (-1), 1) := by decide +kernel
theorem dX9_build_118 : decode cX9_build 118 = .ok (.iastore, 1) := by decide +kernel
theorem dX9_build_119 : decode cX9_build 119 = .ok (.aload_n 0, 1) := by decide +kernel
theorem dX9_build_120 : decode cX9_build 120 = .ok (.dup, 1) := by decide +kernel
theorem dX9_build_121 : decode cX9_build 121 = .ok (.getfield 112, 3) := by decide +kernel
theorem dX9_build_124 : decode cX9_build 124 = .ok (.iconst 1, 1) := by decide +kernel
theorem dX9_build_125 : decode cX9_build 125 = .ok (.iadd, 1) := by decide +kernel
theorem dX9_build_126 : decode cX9_build 126 = .ok (.putfield 112, 3) := by decide +kernel
theorem dX9_build_129 : decode cX9_build 129 = .ok (.aload_n 0, 1) := by decide +kernel
theorem dX9_build_130 : decode cX9_build 130 = .ok (.getfield 112, 3) := by decide +kernel
theorem dX9_build_133 : decode cX9_build 133 = .ok (.iconst 1, 1) := by decide +kernel
theorem dX9_build_134 : decode cX9_build 134 = .ok (.isub, 1) := by decide +kernel
theorem dX9_build_135 : decode cX9_build 135 = .ok (.ireturn, 1) := by decide +kernel
set_option maxRecDepth 20000 in
theorem ggX9_urge_X9_isBuild : GoodIn wsX9_urge wsX9_isBuild := goodIn_r _ [7, 8, 9, 10, 6, 11, 17, 18, 19, 20, 21, 22, 23, 24, 25, 26, 27, 28, 29, 30, 31, 32, 33, 34, 35, 36, 37, 38, 39, 40, 41, 42, 43, 44, 45, 46, 47, 48, 49, 50, 51] (by decide +kernel) (by decide +kernel)
set_option maxRecDepth 20000 in
theorem gX9_urge_X9_isBuild : GoodIn wsX9_urge (wsV RX9 169 RX9 yX9_isBuild wsX9_isBuild) := goodIn_app (goodIn_of _ (by decide +kernel)) ggX9_urge_X9_isBuild
set_option maxRecDepth 20000 in
theorem ggX9_urge_X9_in : GoodIn wsX9_urge wsX9_in := goodIn_r _ [11] (by decide +kernel) (by decide +kernel)
set_option maxRecDepth 20000 in
theorem gX9_urge_X9_in : GoodIn wsX9_urge (va_wsS RX9 99 yX9_in wsX9_in) := goodIn_app (goodIn_of _ (by decide +kernel)) ggX9_urge_X9_in
set_option maxRecDepth 20000 in
theorem ggX9_urge_X9_refused : GoodIn wsX9_urge wsX9_refused := goodIn_r _ [15, 16, 17, 18, 19, 20, 21, 22, 23, 24, 25, 26, 27, 28, 29, 30, 31, 32, 33, 34, 35, 36, 37, 38, 39, 40, 41, 42, 43, 44, 45, 46, 47, 48, 49, 50, 51] (by decide +kernel) (by decide +kernel)
set_option maxRecDepth 20000 in
theorem gX9_urge_X9_refused : GoodIn wsX9_urge (wsV RX9 141 RX9 yX9_refused wsX9_refused) := goodIn_app (goodIn_of _ (by decide +kernel)) ggX9_urge_X9_refused
theorem dX9_urge_0 : decode cX9_urge 0 = .ok (.aload_n 0, 1) := by decide +kernel
theorem dX9_urge_1 : decode cX9_urge 1 = .ok (.iload_n 1, 1) := by decide +kernel
theorem dX9_urge_2 : decode cX9_urge 2 = .ok (.invokevirtual 169, 3) := by decide +kernel
theorem dX9_urge_5 : decode cX9_urge 5 = .ok (.istore_n 3, 1) := by decide +kernel
theorem dX9_urge_6 : decode cX9_urge 6 = .ok (.aload_n 0, 1) := by decide +kernel
theorem dX9_urge_7 : decode cX9_urge 7 = .ok (.iload_n 3, 1) := by decide +kernel
theorem dX9_urge_8 : decode cX9_urge 8 = .ok (.ifCond .ne 7, 3) := by decide +kernel
theorem dX9_urge_11 : decode cX9_urge 11 = .ok (.iconst 1, 1) := by decide +kernel
theorem dX9_urge_12 : decode cX9_urge 12 = .ok (.goto 31, 3) := by decide +kernel
theorem dX9_urge_15 : decode cX9_urge 15 = .ok (.iload_n 2, 1) := by decide +kernel
theorem dX9_urge_16 : decode cX9_urge 16 = .ok (.iconst 0, 1) := by decide +kernel
theorem dX9_urge_17 : decode cX9_urge 17 = .ok (.bipush 9, 2) := by decide +kernel
theorem dX9_urge_19 : decode cX9_urge 19 = .ok (.invokestatic 99, 3) := by decide +kernel
theorem dX9_urge_22 : decode cX9_urge 22 = .ok (.ifCond .ne 7, 3) := by decide +kernel
theorem dX9_urge_25 : decode cX9_urge 25 = .ok (.iconst 2, 1) := by decide +kernel
theorem dX9_urge_26 : decode cX9_urge 26 = .ok (.goto 17, 3) := by decide +kernel
theorem dX9_urge_29 : decode cX9_urge 29 = .ok (.aload_n 0, 1) := by decide +kernel
theorem dX9_urge_30 : decode cX9_urge 30 = .ok (.getfield 74, 3) := by decide +kernel
theorem dX9_urge_33 : decode cX9_urge 33 = .ok (.iload_n 1, 1) := by decide +kernel
theorem dX9_urge_34 : decode cX9_urge 34 = .ok (.iaload, 1) := by decide +kernel
theorem dX9_urge_35 : decode cX9_urge 35 = .ok (.ifCond .eq 7, 3) := by decide +kernel
theorem dX9_urge_38 : decode cX9_urge 38 = .ok (.iconst 3, 1) := by decide +kernel
theorem dX9_urge_39 : decode cX9_urge 39 = .ok (.goto 4, 3) := by decide +kernel
theorem dX9_urge_42 : decode cX9_urge 42 = .ok (.iconst 0, 1) := by decide +kernel
theorem dX9_urge_43 : decode cX9_urge 43 = .ok (.invokevirtual 141, 3) := by decide +kernel
theorem dX9_urge_46 : decode cX9_urge 46 = .ok (.ifCond .eq 5, 3) := by decide +kernel
theorem dX9_urge_49 : decode cX9_urge 49 = .ok (.iconst 0, 1) := by decide +kernel
theorem dX9_urge_50 : decode cX9_urge 50 = .ok (.ireturn, 1) := by decide +kernel
theorem dX9_urge_51 : decode cX9_urge 51 = .ok (.aload_n 0, 1) := by decide +kernel
theorem dX9_urge_52 : decode cX9_urge 52 = .ok (.getfield 80, 3) := by decide +kernel
theorem dX9_urge_55 : decode cX9_urge 55 = .ok (.iload_n 1, 1) := by decide +kernel
theorem dX9_urge_56 : decode cX9_urge 56 = .ok (.iaload, 1) := by decide +kernel
theorem dX9_urge_57 : decode cX9_urge 57 = .ok (.istore 4, 2) := by decide +kernel
theorem dX9_urge_59 : decode cX9_urge 59 = .ok (.aload_n 0, 1) := by decide +kernel
theorem dX9_urge_60 : decode cX9_urge 60 = .ok (.getfield 80, 3) := by decide +kernel
theorem dX9_urge_63 : decode cX9_urge 63 = .ok (.iload_n 1, 1) := by decide +kernel
theorem dX9_urge_64 : decode cX9_urge 64 = .ok (.iload_n 2, 1) := by decide +kernel
theorem dX9_urge_65 : decode cX9_urge 65 = .ok (.iastore, 1) := by decide +kernel
theorem dX9_urge_66 : decode cX9_urge 66 = .ok (.iload 4, 2) := by decide +kernel
theorem dX9_urge_68 : decode cX9_urge 68 = .ok (.ireturn, 1) := by decide +kernel
set_option maxRecDepth 20000 in
theorem ggX9_canRun_X9_isBroken : GoodIn wsX9_canRun wsX9_isBroken := goodIn_r _ [9, 10, 11, 12, 13, 8, 14, 43, 44, 45, 46, 47, 48, 49, 50, 51, 52, 53, 54, 55, 56, 57, 58, 59, 60, 61, 62, 63, 64, 65, 66, 67, 68, 69, 70, 71, 72, 73, 74, 75, 76, 77] (by decide +kernel) (by decide +kernel)
set_option maxRecDepth 20000 in
theorem gX9_canRun_X9_isBroken : GoodIn wsX9_canRun (wsV RX9 134 RX9 yX9_isBroken wsX9_isBroken) := goodIn_app (goodIn_of _ (by decide +kernel)) ggX9_canRun_X9_isBroken
set_option maxRecDepth 20000 in
theorem ggX9_canRun_X9_isPromised : GoodIn wsX9_canRun wsX9_isPromised := goodIn_r _ [18, 19, 20, 21, 22, 23, 8, 24, 25, 26, 27, 12, 13, 14, 43, 44, 45, 46, 47, 48, 49, 50, 51, 52, 53, 54, 55, 56, 57, 58, 59, 60, 61, 62, 63, 64, 65, 66, 67, 68, 69, 70, 71, 72, 73, 74, 75, 76, 77] (by decide +kernel) (by decide +kernel)
set_option maxRecDepth 20000 in
theorem gX9_canRun_X9_isPromised : GoodIn wsX9_canRun (wsV RX9 128 RX9 yX9_isPromised wsX9_isPromised) := goodIn_app (goodIn_of _ (by decide +kernel)) ggX9_canRun_X9_isPromised
set_option maxRecDepth 20000 in
theorem ggX9_canRun_X9_hasIn : GoodIn wsX9_canRun wsX9_hasIn := goodIn_r _ [31, 32, 33, 34, 35, 36, 37, 12, 13, 8, 14, 43, 44, 45, 46, 47, 48, 49, 50, 51, 52, 53, 54, 55, 56, 57, 58, 59, 60, 61, 62, 63, 64, 65, 66, 67, 68, 69, 70, 71, 72, 73, 74, 75, 76, 77] (by decide +kernel) (by decide +kernel)
set_option maxRecDepth 20000 in
theorem gX9_canRun_X9_hasIn : GoodIn wsX9_canRun (wsV RX9 172 RX9 yX9_hasIn wsX9_hasIn) := goodIn_app (goodIn_of _ (by decide +kernel)) ggX9_canRun_X9_hasIn
set_option maxRecDepth 20000 in
theorem ggX9_canRun_X9_isOnLeave : GoodIn wsX9_canRun wsX9_isOnLeave := goodIn_r _ [41, 42, 43, 44, 45, 46, 47, 48, 49, 50, 51, 52, 53, 54, 55, 56, 57, 58, 59, 60, 61, 62, 63, 64, 65, 66, 67, 68, 69, 70, 71, 72, 73, 74, 75, 76, 77] (by decide +kernel) (by decide +kernel)
set_option maxRecDepth 20000 in
theorem gX9_canRun_X9_isOnLeave : GoodIn wsX9_canRun (wsV RX9 125 RX9 yX9_isOnLeave wsX9_isOnLeave) := goodIn_app (goodIn_of _ (by decide +kernel)) ggX9_canRun_X9_isOnLeave
theorem dX9_canRun_0 : decode cX9_canRun 0 = .ok (.aload_n 0, 1) := by decide +kernel
theorem dX9_canRun_1 : decode cX9_canRun 1 = .ok (.getfield 77, 3) := by decide +kernel
theorem dX9_canRun_4 : decode cX9_canRun 4 = .ok (.iload_n 2, 1) := by decide +kernel
theorem dX9_canRun_5 : decode cX9_canRun 5 = .ok (.iaload, 1) := by decide +kernel
theorem dX9_canRun_6 : decode cX9_canRun 6 = .ok (.aload_n 0, 1) := by decide +kernel
theorem dX9_canRun_7 : decode cX9_canRun 7 = .ok (.getfield 13, 3) := by decide +kernel
theorem dX9_canRun_10 : decode cX9_canRun 10 = .ok (.iload_n 1, 1) := by decide +kernel
theorem dX9_canRun_11 : decode cX9_canRun 11 = .ok (.iaload, 1) := by decide +kernel
theorem dX9_canRun_12 : decode cX9_canRun 12 = .ok (.iconst (-1), 1) := by decide +kernel
theorem dX9_canRun_13 : decode cX9_canRun 13 = .ok (.ixor, 1) := by decide +kernel
theorem dX9_canRun_14 : decode cX9_canRun 14 = .ok (.iand, 1) := by decide +kernel
theorem dX9_canRun_15 : decode cX9_canRun 15 = .ok (.ifCond .ne 7, 3) := by decide +kernel
theorem dX9_canRun_18 : decode cX9_canRun 18 = .ok (.iconst 1, 1) := by decide +kernel
theorem dX9_canRun_19 : decode cX9_canRun 19 = .ok (.goto 4, 3) := by decide +kernel
theorem dX9_canRun_22 : decode cX9_canRun 22 = .ok (.iconst 0, 1) := by decide +kernel
theorem dX9_canRun_23 : decode cX9_canRun 23 = .ok (.istore_n 3, 1) := by decide +kernel
theorem dX9_canRun_24 : decode cX9_canRun 24 = .ok (.aload_n 0, 1) := by decide +kernel
theorem dX9_canRun_25 : decode cX9_canRun 25 = .ok (.getfield 144, 3) := by decide +kernel
theorem dX9_canRun_28 : decode cX9_canRun 28 = .ok (.istore 4, 2) := by decide +kernel
theorem dX9_canRun_30 : decode cX9_canRun 30 = .ok (.iload 4, 2) := by decide +kernel
theorem dX9_canRun_32 : decode cX9_canRun 32 = .ok (.aload_n 0, 1) := by decide +kernel
theorem dX9_canRun_33 : decode cX9_canRun 33 = .ok (.getfield 144, 3) := by decide +kernel
theorem dX9_canRun_36 : decode cX9_canRun 36 = .ok (.aload_n 0, 1) := by decide +kernel
theorem dX9_canRun_37 : decode cX9_canRun 37 = .ok (.getfield 83, 3) := by decide +kernel
theorem dX9_canRun_40 : decode cX9_canRun 40 = .ok (.iload_n 2, 1) := by decide +kernel
theorem dX9_canRun_41 : decode cX9_canRun 41 = .ok (.iaload, 1) := by decide +kernel
theorem dX9_canRun_42 : decode cX9_canRun 42 = .ok (.iadd, 1) := by decide +kernel
theorem dX9_canRun_43 : decode cX9_canRun 43 = .ok (.if_icmp .ge 56, 3) := by decide +kernel
theorem dX9_canRun_46 : decode cX9_canRun 46 = .ok (.iload_n 3, 1) := by decide +kernel
theorem dX9_canRun_47 : decode cX9_canRun 47 = .ok (.ifCond .eq 44, 3) := by decide +kernel
theorem dX9_canRun_50 : decode cX9_canRun 50 = .ok (.aload_n 0, 1) := by decide +kernel
theorem dX9_canRun_51 : decode cX9_canRun 51 = .ok (.iload_n 1, 1) := by decide +kernel
theorem dX9_canRun_52 : decode cX9_canRun 52 = .ok (.iload 4, 2) := by decide +kernel
theorem dX9_canRun_54 : decode cX9_canRun 54 = .ok (.invokevirtual 134, 3) := by decide +kernel
theorem dX9_canRun_57 : decode cX9_canRun 57 = .ok (.ifCond .ne 34, 3) := by decide +kernel
theorem dX9_canRun_60 : decode cX9_canRun 60 = .ok (.aload_n 0, 1) := by decide +kernel
theorem dX9_canRun_61 : decode cX9_canRun 61 = .ok (.iload_n 1, 1) := by decide +kernel
theorem dX9_canRun_62 : decode cX9_canRun 62 = .ok (.iload 4, 2) := by decide +kernel
theorem dX9_canRun_64 : decode cX9_canRun 64 = .ok (.iconst (-1), 1) := by decide +kernel
theorem dX9_canRun_65 : decode cX9_canRun 65 = .ok (.invokevirtual 128, 3) := by decide +kernel
theorem dX9_canRun_68 : decode cX9_canRun 68 = .ok (.ifCond .ne 23, 3) := by decide +kernel
theorem dX9_canRun_71 : decode cX9_canRun 71 = .ok (.aload_n 0, 1) := by decide +kernel
theorem dX9_canRun_72 : decode cX9_canRun 72 = .ok (.aload_n 0, 1) := by decide +kernel
theorem dX9_canRun_73 : decode cX9_canRun 73 = .ok (.iload_n 1, 1) := by decide +kernel
theorem dX9_canRun_74 : decode cX9_canRun 74 = .ok (.iload 4, 2) := by decide +kernel
theorem dX9_canRun_76 : decode cX9_canRun 76 = .ok (.invokevirtual 172, 3) := by decide +kernel
theorem dX9_canRun_79 : decode cX9_canRun 79 = .ok (.iload 4, 2) := by decide +kernel
theorem dX9_canRun_81 : decode cX9_canRun 81 = .ok (.invokevirtual 125, 3) := by decide +kernel
theorem dX9_canRun_84 : decode cX9_canRun 84 = .ok (.ifCond .ne 7, 3) := by decide +kernel
theorem dX9_canRun_87 : decode cX9_canRun 87 = .ok (.iconst 1, 1) := by decide +kernel
theorem dX9_canRun_88 : decode cX9_canRun 88 = .ok (.goto 4, 3) := by decide +kernel
theorem dX9_canRun_91 : decode cX9_canRun 91 = .ok (.iconst 0, 1) := by decide +kernel
theorem dX9_canRun_92 : decode cX9_canRun 92 = .ok (.istore_n 3, 1) := by decide +kernel
theorem dX9_canRun_93 : decode cX9_canRun 93 = .ok (.iinc 4 1, 3) := by decide +kernel
theorem dX9_canRun_96 : decode cX9_canRun 96 = .ok (.goto (-66), 3) := by decide +kernel
theorem dX9_canRun_99 : decode cX9_canRun 99 = .ok (.iload_n 3, 1) := by decide +kernel
theorem dX9_canRun_100 : decode cX9_canRun 100 = .ok (.ireturn, 1) := by decide +kernel
set_option maxRecDepth 20000 in
theorem ggX9_plan_X9_canRun : GoodIn wsX9_plan wsX9_canRun := goodIn_r _ [12, 13, 14, 6, 15, 16, 17, 18, 11, 19, 20, 21, 22, 23, 24, 25, 26, 27, 28, 29, 30, 31, 32, 33, 34, 35, 36, 37, 38, 39, 40, 41, 42, 43, 44, 45, 46, 47, 48, 49, 50, 51, 52, 53, 54, 55, 56, 57, 58, 59, 60, 61, 62, 63, 64, 65, 66, 67, 68, 69, 70, 71, 72, 73, 74, 75, 76, 77, 78, 79, 80, 81, 82, 83, 84, 85, 86, 87] (by decide +kernel) (by decide +kernel)
set_option maxRecDepth 20000 in
theorem gX9_plan_X9_canRun : GoodIn wsX9_plan (wsV RX9 176 RX9 yX9_canRun wsX9_canRun) := goodIn_app (goodIn_of _ (by decide +kernel)) ggX9_plan_X9_canRun
theorem dX9_plan_0 : decode cX9_plan 0 = .ok (.iconst (-1), 1) := by decide +kernel
theorem dX9_plan_1 : decode cX9_plan 1 = .ok (.istore_n 2, 1) := by decide +kernel
theorem dX9_plan_2 : decode cX9_plan 2 = .ok (.iconst 0, 1) := by decide +kernel
theorem dX9_plan_3 : decode cX9_plan 3 = .ok (.istore_n 3, 1) := by decide +kernel
theorem dX9_plan_4 : decode cX9_plan 4 = .ok (.iconst 0, 1) := by decide +kernel
theorem dX9_plan_5 : decode cX9_plan 5 = .ok (.istore 4, 2) := by decide +kernel
theorem dX9_plan_7 : decode cX9_plan 7 = .ok (.iload 4, 2) := by decide +kernel
theorem dX9_plan_9 : decode cX9_plan 9 = .ok (.aload_n 0, 1) := by decide +kernel
theorem dX9_plan_10 : decode cX9_plan 10 = .ok (.getfield 112, 3) := by decide +kernel
theorem dX9_plan_13 : decode cX9_plan 13 = .ok (.if_icmp .ge 41, 3) := by decide +kernel
theorem dX9_plan_16 : decode cX9_plan 16 = .ok (.iload_n 3, 1) := by decide +kernel
theorem dX9_plan_17 : decode cX9_plan 17 = .ok (.ifCond .ne 25, 3) := by decide +kernel
theorem dX9_plan_20 : decode cX9_plan 20 = .ok (.aload_n 0, 1) := by decide +kernel
theorem dX9_plan_21 : decode cX9_plan 21 = .ok (.getfield 74, 3) := by decide +kernel
theorem dX9_plan_24 : decode cX9_plan 24 = .ok (.iload 4, 2) := by decide +kernel
theorem dX9_plan_26 : decode cX9_plan 26 = .ok (.iaload, 1) := by decide +kernel
theorem dX9_plan_27 : decode cX9_plan 27 = .ok (.iconst 1, 1) := by decide +kernel
theorem dX9_plan_28 : decode cX9_plan 28 = .ok (.if_icmp .ne 18, 3) := by decide +kernel
theorem dX9_plan_31 : decode cX9_plan 31 = .ok (.aload_n 0, 1) := by decide +kernel
theorem dX9_plan_32 : decode cX9_plan 32 = .ok (.getfield 86, 3) := by decide +kernel
theorem dX9_plan_35 : decode cX9_plan 35 = .ok (.iload 4, 2) := by decide +kernel
theorem dX9_plan_37 : decode cX9_plan 37 = .ok (.iaload, 1) := by decide +kernel
theorem dX9_plan_38 : decode cX9_plan 38 = .ok (.iload_n 1, 1) := by decide +kernel
theorem dX9_plan_39 : decode cX9_plan 39 = .ok (.if_icmp .ne 7, 3) := by decide +kernel
theorem dX9_plan_42 : decode cX9_plan 42 = .ok (.iconst 1, 1) := by decide +kernel
theorem dX9_plan_43 : decode cX9_plan 43 = .ok (.goto 4, 3) := by decide +kernel
theorem dX9_plan_46 : decode cX9_plan 46 = .ok (.iconst 0, 1) := by decide +kernel
theorem dX9_plan_47 : decode cX9_plan 47 = .ok (.istore_n 3, 1) := by decide +kernel
theorem dX9_plan_48 : decode cX9_plan 48 = .ok (.iinc 4 1, 3) := by decide +kernel
theorem dX9_plan_51 : decode cX9_plan 51 = .ok (.goto (-44), 3) := by decide +kernel
theorem dX9_plan_54 : decode cX9_plan 54 = .ok (.iconst 0, 1) := by decide +kernel
theorem dX9_plan_55 : decode cX9_plan 55 = .ok (.istore 4, 2) := by decide +kernel
theorem dX9_plan_57 : decode cX9_plan 57 = .ok (.iload 4, 2) := by decide +kernel
theorem dX9_plan_59 : decode cX9_plan 59 = .ok (.aload_n 0, 1) := by decide +kernel
theorem dX9_plan_60 : decode cX9_plan 60 = .ok (.getfield 112, 3) := by decide +kernel
theorem dX9_plan_63 : decode cX9_plan 63 = .ok (.if_icmp .ge 73, 3) := by decide +kernel
theorem dX9_plan_66 : decode cX9_plan 66 = .ok (.iload_n 3, 1) := by decide +kernel
theorem dX9_plan_67 : decode cX9_plan 67 = .ok (.ifCond .ne 69, 3) := by decide +kernel
theorem dX9_plan_70 : decode cX9_plan 70 = .ok (.aload_n 0, 1) := by decide +kernel
theorem dX9_plan_71 : decode cX9_plan 71 = .ok (.getfield 74, 3) := by decide +kernel
theorem dX9_plan_74 : decode cX9_plan 74 = .ok (.iload 4, 2) := by decide +kernel
theorem dX9_plan_76 : decode cX9_plan 76 = .ok (.iaload, 1) := by decide +kernel
theorem dX9_plan_77 : decode cX9_plan 77 = .ok (.ifCond .ne 38, 3) := by decide +kernel
theorem dX9_plan_80 : decode cX9_plan 80 = .ok (.iload_n 2, 1) := by decide +kernel
theorem dX9_plan_81 : decode cX9_plan 81 = .ok (.iconst (-1), 1) := by decide +kernel
theorem dX9_plan_82 : decode cX9_plan 82 = .ok (.if_icmp .eq 19, 3) := by decide +kernel
theorem dX9_plan_85 : decode cX9_plan 85 = .ok (.aload_n 0, 1) := by decide +kernel
theorem dX9_plan_86 : decode cX9_plan 86 = .ok (.getfield 80, 3) := by decide +kernel
theorem dX9_plan_89 : decode cX9_plan 89 = .ok (.iload 4, 2) := by decide +kernel
theorem dX9_plan_91 : decode cX9_plan 91 = .ok (.iaload, 1) := by decide +kernel
theorem dX9_plan_92 : decode cX9_plan 92 = .ok (.aload_n 0, 1) := by decide +kernel
theorem dX9_plan_93 : decode cX9_plan 93 = .ok (.getfield 80, 3) := by decide +kernel
theorem dX9_plan_96 : decode cX9_plan 96 = .ok (.iload_n 2, 1) := by decide +kernel
theorem dX9_plan_97 : decode cX9_plan 97 = .ok (.iaload, 1) := by decide +kernel
theorem dX9_plan_98 : decode cX9_plan 98 = .ok (.if_icmp .le 17, 3) := by decide +kernel
theorem dX9_plan_101 : decode cX9_plan 101 = .ok (.aload_n 0, 1) := by decide +kernel
theorem dX9_plan_102 : decode cX9_plan 102 = .ok (.iload_n 1, 1) := by decide +kernel
theorem dX9_plan_103 : decode cX9_plan 103 = .ok (.iload 4, 2) := by decide +kernel
theorem dX9_plan_105 : decode cX9_plan 105 = .ok (.invokevirtual 176, 3) := by decide +kernel
theorem dX9_plan_108 : decode cX9_plan 108 = .ok (.ifCond .eq 7, 3) := by decide +kernel
theorem dX9_plan_111 : decode cX9_plan 111 = .ok (.iconst 1, 1) := by decide +kernel
theorem dX9_plan_112 : decode cX9_plan 112 = .ok (.goto 4, 3) := by decide +kernel
theorem dX9_plan_115 : decode cX9_plan 115 = .ok (.iconst 0, 1) := by decide +kernel
theorem dX9_plan_116 : decode cX9_plan 116 = .ok (.istore 5, 2) := by decide +kernel
theorem dX9_plan_118 : decode cX9_plan 118 = .ok (.iload 5, 2) := by decide +kernel
theorem dX9_plan_120 : decode cX9_plan 120 = .ok (.ifCond .eq 8, 3) := by decide +kernel
theorem dX9_plan_123 : decode cX9_plan 123 = .ok (.iload 4, 2) := by decide +kernel
theorem dX9_plan_125 : decode cX9_plan 125 = .ok (.goto 4, 3) := by decide +kernel
theorem dX9_plan_128 : decode cX9_plan 128 = .ok (.iload_n 2, 1) := by decide +kernel
theorem dX9_plan_129 : decode cX9_plan 129 = .ok (.istore_n 2, 1) := by decide +kernel
theorem dX9_plan_130 : decode cX9_plan 130 = .ok (.iinc 4 1, 3) := by decide +kernel
theorem dX9_plan_133 : decode cX9_plan 133 = .ok (.goto (-76), 3) := by decide +kernel
theorem dX9_plan_136 : decode cX9_plan 136 = .ok (.iload_n 2, 1) := by decide +kernel
theorem dX9_plan_137 : decode cX9_plan 137 = .ok (.iconst (-1), 1) := by decide +kernel
theorem dX9_plan_138 : decode cX9_plan 138 = .ok (.if_icmp .eq 37, 3) := by decide +kernel
theorem dX9_plan_141 : decode cX9_plan 141 = .ok (.aload_n 0, 1) := by decide +kernel
theorem dX9_plan_142 : decode cX9_plan 142 = .ok (.getfield 74, 3) := by decide +kernel
theorem dX9_plan_145 : decode cX9_plan 145 = .ok (.iload_n 2, 1) := by decide +kernel
theorem dX9_plan_146 : decode cX9_plan 146 = .ok (.iconst 1, 1) := by decide +kernel
theorem dX9_plan_147 : decode cX9_plan 147 = .ok (.iastore, 1) := by decide +kernel
theorem dX9_plan_148 : decode cX9_plan 148 = .ok (.aload_n 0, 1) := by decide +kernel
theorem dX9_plan_149 : decode cX9_plan 149 = .ok (.getfield 86, 3) := by decide +kernel
theorem dX9_plan_152 : decode cX9_plan 152 = .ok (.iload_n 2, 1) := by decide +kernel
theorem dX9_plan_153 : decode cX9_plan 153 = .ok (.iload_n 1, 1) := by decide +kernel
theorem dX9_plan_154 : decode cX9_plan 154 = .ok (.iastore, 1) := by decide +kernel
theorem dX9_plan_155 : decode cX9_plan 155 = .ok (.aload_n 0, 1) := by decide +kernel
theorem dX9_plan_156 : decode cX9_plan 156 = .ok (.getfield 89, 3) := by decide +kernel
theorem dX9_plan_159 : decode cX9_plan 159 = .ok (.iload_n 2, 1) := by decide +kernel
theorem dX9_plan_160 : decode cX9_plan 160 = .ok (.aload_n 0, 1) := by decide +kernel
theorem dX9_plan_161 : decode cX9_plan 161 = .ok (.getfield 144, 3) := by decide +kernel
theorem dX9_plan_164 : decode cX9_plan 164 = .ok (.iastore, 1) := by decide +kernel
theorem dX9_plan_165 : decode cX9_plan 165 = .ok (.aload_n 0, 1) := by decide +kernel
theorem dX9_plan_166 : decode cX9_plan 166 = .ok (.getfield 92, 3) := by decide +kernel
theorem dX9_plan_169 : decode cX9_plan 169 = .ok (.iload_n 2, 1) := by decide +kernel
theorem dX9_plan_170 : decode cX9_plan 170 = .ok (.dup2, 1) := by decide +kernel
theorem dX9_plan_171 : decode cX9_plan 171 = .ok (.iaload, 1) := by decide +kernel
theorem dX9_plan_172 : decode cX9_plan 172 = .ok (.iconst 1, 1) := by decide +kernel
theorem dX9_plan_173 : decode cX9_plan 173 = .ok (.iadd, 1) := by decide +kernel
theorem dX9_plan_174 : decode cX9_plan 174 = .ok (.iastore, 1) := by decide +kernel
theorem dX9_plan_175 : decode cX9_plan 175 = .ok (.return_, 1) := by decide +kernel
set_option maxRecDepth 20000 in
theorem ggX9_passes_X9_plan : GoodIn wsX9_passes wsX9_plan := goodIn_r _ [15, 2, 3, 16, 17, 4, 6, 18, 19, 20, 21, 14, 22, 23, 24, 5, 25, 26, 27, 28, 29, 30, 31, 32, 33, 34, 35, 36, 37, 7, 38, 39, 40, 41, 42, 8, 9, 10, 43, 44, 45, 46, 47, 48, 49, 50, 51, 52, 53, 54, 55, 56, 57, 58, 59, 60, 61, 62, 63, 64, 65, 66, 67, 68, 69, 70, 71, 72, 73, 74, 75, 76, 77, 78, 79, 80, 81, 82, 83, 84, 85, 86, 87, 88, 89, 90, 91, 92] (by decide +kernel) (by decide +kernel)
set_option maxRecDepth 20000 in
theorem gX9_passes_X9_plan : GoodIn wsX9_passes (wsV RX9 179 RX9 yX9_plan wsX9_plan) := goodIn_app (goodIn_of _ (by decide +kernel)) ggX9_passes_X9_plan
theorem dX9_passes_0 : decode cX9_passes 0 = .ok (.iconst 0, 1) := by decide +kernel
theorem dX9_passes_1 : decode cX9_passes 1 = .ok (.istore_n 1, 1) := by decide +kernel
theorem dX9_passes_2 : decode cX9_passes 2 = .ok (.iload_n 1, 1) := by decide +kernel
theorem dX9_passes_3 : decode cX9_passes 3 = .ok (.aload_n 0, 1) := by decide +kernel
theorem dX9_passes_4 : decode cX9_passes 4 = .ok (.getfield 103, 3) := by decide +kernel
theorem dX9_passes_7 : decode cX9_passes 7 = .ok (.if_icmp .ge 14, 3) := by decide +kernel
theorem dX9_passes_10 : decode cX9_passes 10 = .ok (.aload_n 0, 1) := by decide +kernel
theorem dX9_passes_11 : decode cX9_passes 11 = .ok (.iload_n 1, 1) := by decide +kernel
theorem dX9_passes_12 : decode cX9_passes 12 = .ok (.invokevirtual 179, 3) := by decide +kernel
theorem dX9_passes_15 : decode cX9_passes 15 = .ok (.iinc 1 1, 3) := by decide +kernel
theorem dX9_passes_18 : decode cX9_passes 18 = .ok (.goto (-16), 3) := by decide +kernel
theorem dX9_passes_21 : decode cX9_passes 21 = .ok (.iconst 0, 1) := by decide +kernel
theorem dX9_passes_22 : decode cX9_passes 22 = .ok (.istore_n 1, 1) := by decide +kernel
theorem dX9_passes_23 : decode cX9_passes 23 = .ok (.iload_n 1, 1) := by decide +kernel
theorem dX9_passes_24 : decode cX9_passes 24 = .ok (.aload_n 0, 1) := by decide +kernel
theorem dX9_passes_25 : decode cX9_passes 25 = .ok (.getfield 112, 3) := by decide +kernel
theorem dX9_passes_28 : decode cX9_passes 28 = .ok (.if_icmp .ge 57, 3) := by decide +kernel
theorem dX9_passes_31 : decode cX9_passes 31 = .ok (.aload_n 0, 1) := by decide +kernel
theorem dX9_passes_32 : decode cX9_passes 32 = .ok (.getfield 74, 3) := by decide +kernel
theorem dX9_passes_35 : decode cX9_passes 35 = .ok (.iload_n 1, 1) := by decide +kernel
theorem dX9_passes_36 : decode cX9_passes 36 = .ok (.aload_n 0, 1) := by decide +kernel
theorem dX9_passes_37 : decode cX9_passes 37 = .ok (.getfield 74, 3) := by decide +kernel
theorem dX9_passes_40 : decode cX9_passes 40 = .ok (.iload_n 1, 1) := by decide +kernel
theorem dX9_passes_41 : decode cX9_passes 41 = .ok (.iaload, 1) := by decide +kernel
theorem dX9_passes_42 : decode cX9_passes 42 = .ok (.iconst 1, 1) := by decide +kernel
theorem dX9_passes_43 : decode cX9_passes 43 = .ok (.if_icmp .ne 29, 3) := by decide +kernel
theorem dX9_passes_46 : decode cX9_passes 46 = .ok (.aload_n 0, 1) := by decide +kernel
theorem dX9_passes_47 : decode cX9_passes 47 = .ok (.getfield 89, 3) := by decide +kernel
theorem dX9_passes_50 : decode cX9_passes 50 = .ok (.iload_n 1, 1) := by decide +kernel
theorem dX9_passes_51 : decode cX9_passes 51 = .ok (.iaload, 1) := by decide +kernel
theorem dX9_passes_52 : decode cX9_passes 52 = .ok (.aload_n 0, 1) := by decide +kernel
theorem dX9_passes_53 : decode cX9_passes 53 = .ok (.getfield 83, 3) := by decide +kernel
theorem dX9_passes_56 : decode cX9_passes 56 = .ok (.iload_n 1, 1) := by decide +kernel
theorem dX9_passes_57 : decode cX9_passes 57 = .ok (.iaload, 1) := by decide +kernel
theorem dX9_passes_58 : decode cX9_passes 58 = .ok (.iadd, 1) := by decide +kernel
theorem dX9_passes_59 : decode cX9_passes 59 = .ok (.iconst 1, 1) := by decide +kernel
theorem dX9_passes_60 : decode cX9_passes 60 = .ok (.isub, 1) := by decide +kernel
theorem dX9_passes_61 : decode cX9_passes 61 = .ok (.aload_n 0, 1) := by decide +kernel
theorem dX9_passes_62 : decode cX9_passes 62 = .ok (.getfield 144, 3) := by decide +kernel
theorem dX9_passes_65 : decode cX9_passes 65 = .ok (.if_icmp .ne 7, 3) := by decide +kernel
theorem dX9_passes_68 : decode cX9_passes 68 = .ok (.iconst 2, 1) := by decide +kernel
theorem dX9_passes_69 : decode cX9_passes 69 = .ok (.goto 9, 3) := by decide +kernel
theorem dX9_passes_72 : decode cX9_passes 72 = .ok (.aload_n 0, 1) := by decide +kernel
theorem dX9_passes_73 : decode cX9_passes 73 = .ok (.getfield 74, 3) := by decide +kernel
theorem dX9_passes_76 : decode cX9_passes 76 = .ok (.iload_n 1, 1) := by decide +kernel
theorem dX9_passes_77 : decode cX9_passes 77 = .ok (.iaload, 1) := by decide +kernel
theorem dX9_passes_78 : decode cX9_passes 78 = .ok (.iastore, 1) := by decide +kernel
theorem dX9_passes_79 : decode cX9_passes 79 = .ok (.iinc 1 1, 3) := by decide +kernel
theorem dX9_passes_82 : decode cX9_passes 82 = .ok (.goto (-59), 3) := by decide +kernel
theorem dX9_passes_85 : decode cX9_passes 85 = .ok (.iconst 0, 1) := by decide +kernel
theorem dX9_passes_86 : decode cX9_passes 86 = .ok (.istore_n 1, 1) := by decide +kernel
theorem dX9_passes_87 : decode cX9_passes 87 = .ok (.iload_n 1, 1) := by decide +kernel
theorem dX9_passes_88 : decode cX9_passes 88 = .ok (.aload_n 0, 1) := by decide +kernel
theorem dX9_passes_89 : decode cX9_passes 89 = .ok (.getfield 106, 3) := by decide +kernel
theorem dX9_passes_92 : decode cX9_passes 92 = .ok (.if_icmp .ge 56, 3) := by decide +kernel
theorem dX9_passes_95 : decode cX9_passes 95 = .ok (.aload_n 0, 1) := by decide +kernel
theorem dX9_passes_96 : decode cX9_passes 96 = .ok (.getfield 38, 3) := by decide +kernel
theorem dX9_passes_99 : decode cX9_passes 99 = .ok (.iload_n 1, 1) := by decide +kernel
theorem dX9_passes_100 : decode cX9_passes 100 = .ok (.aload_n 0, 1) := by decide +kernel
theorem dX9_passes_101 : decode cX9_passes 101 = .ok (.getfield 38, 3) := by decide +kernel
theorem dX9_passes_104 : decode cX9_passes 104 = .ok (.iload_n 1, 1) := by decide +kernel
theorem dX9_passes_105 : decode cX9_passes 105 = .ok (.iaload, 1) := by decide +kernel
theorem dX9_passes_106 : decode cX9_passes 106 = .ok (.ifCond .ne 29, 3) := by decide +kernel
theorem dX9_passes_109 : decode cX9_passes 109 = .ok (.aload_n 0, 1) := by decide +kernel
theorem dX9_passes_110 : decode cX9_passes 110 = .ok (.getfield 44, 3) := by decide +kernel
theorem dX9_passes_113 : decode cX9_passes 113 = .ok (.iload_n 1, 1) := by decide +kernel
theorem dX9_passes_114 : decode cX9_passes 114 = .ok (.iaload, 1) := by decide +kernel
theorem dX9_passes_115 : decode cX9_passes 115 = .ok (.aload_n 0, 1) := by decide +kernel
theorem dX9_passes_116 : decode cX9_passes 116 = .ok (.getfield 47, 3) := by decide +kernel
theorem dX9_passes_119 : decode cX9_passes 119 = .ok (.iload_n 1, 1) := by decide +kernel
theorem dX9_passes_120 : decode cX9_passes 120 = .ok (.iaload, 1) := by decide +kernel
theorem dX9_passes_121 : decode cX9_passes 121 = .ok (.iadd, 1) := by decide +kernel
theorem dX9_passes_122 : decode cX9_passes 122 = .ok (.iconst 1, 1) := by decide +kernel
theorem dX9_passes_123 : decode cX9_passes 123 = .ok (.isub, 1) := by decide +kernel
theorem dX9_passes_124 : decode cX9_passes 124 = .ok (.aload_n 0, 1) := by decide +kernel
theorem dX9_passes_125 : decode cX9_passes 125 = .ok (.getfield 144, 3) := by decide +kernel
theorem dX9_passes_128 : decode cX9_passes 128 = .ok (.if_icmp .ne 7, 3) := by decide +kernel
theorem dX9_passes_131 : decode cX9_passes 131 = .ok (.iconst 2, 1) := by decide +kernel
theorem dX9_passes_132 : decode cX9_passes 132 = .ok (.goto 9, 3) := by decide +kernel
theorem dX9_passes_135 : decode cX9_passes 135 = .ok (.aload_n 0, 1) := by decide +kernel
theorem dX9_passes_136 : decode cX9_passes 136 = .ok (.getfield 38, 3) := by decide +kernel
theorem dX9_passes_139 : decode cX9_passes 139 = .ok (.iload_n 1, 1) := by decide +kernel
theorem dX9_passes_140 : decode cX9_passes 140 = .ok (.iaload, 1) := by decide +kernel
theorem dX9_passes_141 : decode cX9_passes 141 = .ok (.iastore, 1) := by decide +kernel
theorem dX9_passes_142 : decode cX9_passes 142 = .ok (.iinc 1 1, 3) := by decide +kernel
theorem dX9_passes_145 : decode cX9_passes 145 = .ok (.goto (-58), 3) := by decide +kernel
theorem dX9_passes_148 : decode cX9_passes 148 = .ok (.aload_n 0, 1) := by decide +kernel
theorem dX9_passes_149 : decode cX9_passes 149 = .ok (.dup, 1) := by decide +kernel
theorem dX9_passes_150 : decode cX9_passes 150 = .ok (.getfield 144, 3) := by decide +kernel
theorem dX9_passes_153 : decode cX9_passes 153 = .ok (.iconst 1, 1) := by decide +kernel
theorem dX9_passes_154 : decode cX9_passes 154 = .ok (.iadd, 1) := by decide +kernel
theorem dX9_passes_155 : decode cX9_passes 155 = .ok (.putfield 144, 3) := by decide +kernel
theorem dX9_passes_158 : decode cX9_passes 158 = .ok (.return_, 1) := by decide +kernel
set_option maxRecDepth 20000 in
theorem ggX9_pass_X9_in : GoodIn wsX9_pass wsX9_in := goodIn_r _ [5] (by decide +kernel) (by decide +kernel)
set_option maxRecDepth 20000 in
theorem gX9_pass_X9_in : GoodIn wsX9_pass (va_wsS RX9 99 yX9_in wsX9_in) := goodIn_app (goodIn_of _ (by decide +kernel)) ggX9_pass_X9_in
set_option maxRecDepth 20000 in
theorem ggX9_pass_X9_refused : GoodIn wsX9_pass wsX9_refused := goodIn_r _ [9, 10, 67, 68, 69, 70, 71, 72, 73, 74, 75, 76, 77, 78, 79, 80, 81, 82, 83, 84, 85, 86, 87, 88, 89, 90, 91, 92, 93, 94, 95, 96, 97, 98, 99, 100, 101] (by decide +kernel) (by decide +kernel)
set_option maxRecDepth 20000 in
theorem gX9_pass_X9_refused : GoodIn wsX9_pass (wsV RX9 141 RX9 yX9_refused wsX9_refused) := goodIn_app (goodIn_of _ (by decide +kernel)) ggX9_pass_X9_refused
set_option maxRecDepth 20000 in
theorem ggX9_pass_X9_passes : GoodIn wsX9_pass wsX9_passes := goodIn_r _ [14, 15, 16, 17, 18, 19, 1, 20, 21, 22, 23, 24, 25, 26, 4, 27, 28, 29, 30, 31, 32, 33, 34, 35, 36, 37, 38, 39, 40, 41, 42, 2, 3, 5, 43, 44, 45, 46, 47, 48, 49, 50, 51, 52, 53, 54, 55, 56, 57, 58, 59, 60, 61, 62, 63, 64, 65, 66, 67, 68, 69, 70, 71, 72, 73, 74, 75, 76, 77, 78, 79, 80, 81, 82, 83, 84, 85, 86, 87, 88, 89, 90, 91, 92, 93, 94, 95, 96, 97, 98, 99, 100, 101] (by decide +kernel) (by decide +kernel)
set_option maxRecDepth 20000 in
theorem gX9_pass_X9_passes : GoodIn wsX9_pass (wsV RX9 183 RX9 yX9_passes wsX9_passes) := goodIn_app (goodIn_of _ (by decide +kernel)) ggX9_pass_X9_passes
theorem dX9_pass_0 : decode cX9_pass 0 = .ok (.aload_n 0, 1) := by decide +kernel
theorem dX9_pass_1 : decode cX9_pass 1 = .ok (.iload_n 1, 1) := by decide +kernel
theorem dX9_pass_2 : decode cX9_pass 2 = .ok (.iconst 1, 1) := by decide +kernel
theorem dX9_pass_3 : decode cX9_pass 3 = .ok (.bipush 50, 2) := by decide +kernel
theorem dX9_pass_5 : decode cX9_pass 5 = .ok (.invokestatic 99, 3) := by decide +kernel
theorem dX9_pass_8 : decode cX9_pass 8 = .ok (.ifCond .ne 7, 3) := by decide +kernel
theorem dX9_pass_11 : decode cX9_pass 11 = .ok (.iconst 1, 1) := by decide +kernel
theorem dX9_pass_12 : decode cX9_pass 12 = .ok (.goto 20, 3) := by decide +kernel
theorem dX9_pass_15 : decode cX9_pass 15 = .ok (.aload_n 0, 1) := by decide +kernel
theorem dX9_pass_16 : decode cX9_pass 16 = .ok (.getfield 144, 3) := by decide +kernel
theorem dX9_pass_19 : decode cX9_pass 19 = .ok (.iload_n 1, 1) := by decide +kernel
theorem dX9_pass_20 : decode cX9_pass 20 = .ok (.iadd, 1) := by decide +kernel
theorem dX9_pass_21 : decode cX9_pass 21 = .ok (.sipush 400, 3) := by decide +kernel
theorem dX9_pass_24 : decode cX9_pass 24 = .ok (.if_icmp .le 7, 3) := by decide +kernel
theorem dX9_pass_27 : decode cX9_pass 27 = .ok (.iconst 2, 1) := by decide +kernel
theorem dX9_pass_28 : decode cX9_pass 28 = .ok (.goto 4, 3) := by decide +kernel
theorem dX9_pass_31 : decode cX9_pass 31 = .ok (.iconst 0, 1) := by decide +kernel
theorem dX9_pass_32 : decode cX9_pass 32 = .ok (.invokevirtual 141, 3) := by decide +kernel
theorem dX9_pass_35 : decode cX9_pass 35 = .ok (.ifCond .eq 5, 3) := by decide +kernel
theorem dX9_pass_38 : decode cX9_pass 38 = .ok (.iconst 0, 1) := by decide +kernel
theorem dX9_pass_39 : decode cX9_pass 39 = .ok (.ireturn, 1) := by decide +kernel
theorem dX9_pass_40 : decode cX9_pass 40 = .ok (.iconst 0, 1) := by decide +kernel
theorem dX9_pass_41 : decode cX9_pass 41 = .ok (.istore_n 2, 1) := by decide +kernel
theorem dX9_pass_42 : decode cX9_pass 42 = .ok (.iload_n 2, 1) := by decide +kernel
theorem dX9_pass_43 : decode cX9_pass 43 = .ok (.iload_n 1, 1) := by decide +kernel
theorem dX9_pass_44 : decode cX9_pass 44 = .ok (.if_icmp .ge 13, 3) := by decide +kernel
theorem dX9_pass_47 : decode cX9_pass 47 = .ok (.aload_n 0, 1) := by decide +kernel
theorem dX9_pass_48 : decode cX9_pass 48 = .ok (.invokevirtual 183, 3) := by decide +kernel
theorem dX9_pass_51 : decode cX9_pass 51 = .ok (.iinc 2 1, 3) := by decide +kernel
theorem dX9_pass_54 : decode cX9_pass 54 = .ok (.goto (-12), 3) := by decide +kernel
theorem dX9_pass_57 : decode cX9_pass 57 = .ok (.aload_n 0, 1) := by decide +kernel
theorem dX9_pass_58 : decode cX9_pass 58 = .ok (.getfield 144, 3) := by decide +kernel
theorem dX9_pass_61 : decode cX9_pass 61 = .ok (.ireturn, 1) := by decide +kernel
theorem dX9_slot_0 : decode cX9_slot 0 = .ok (.aload_n 0, 1) := by decide +kernel
theorem dX9_slot_1 : decode cX9_slot 1 = .ok (.iconst 0, 1) := by decide +kernel
theorem dX9_slot_2 : decode cX9_slot 2 = .ok (.putfield 95, 3) := by decide +kernel
theorem dX9_slot_5 : decode cX9_slot 5 = .ok (.aload_n 0, 1) := by decide +kernel
theorem dX9_slot_6 : decode cX9_slot 6 = .ok (.getfield 144, 3) := by decide +kernel
theorem dX9_slot_9 : decode cX9_slot 9 = .ok (.ireturn, 1) := by decide +kernel
set_option maxRecDepth 20000 in
theorem ggX9_meetingOf_X9_isMeeting : GoodIn wsX9_meetingOf wsX9_isMeeting := goodIn_r _ [10, 11, 12, 13, 9, 14, 20, 21, 22, 23, 24, 25, 26, 27, 28, 29, 30, 31, 32, 33, 34, 35, 36, 37, 38, 39, 40, 41, 42, 43, 44, 45, 46, 47, 48, 49, 50, 51, 52, 53, 54] (by decide +kernel) (by decide +kernel)
set_option maxRecDepth 20000 in
theorem gX9_meetingOf_X9_isMeeting : GoodIn wsX9_meetingOf (wsV RX9 157 RX9 yX9_isMeeting wsX9_isMeeting) := goodIn_app (goodIn_of _ (by decide +kernel)) ggX9_meetingOf_X9_isMeeting
set_option maxRecDepth 20000 in
theorem ggX9_meetingOf_X9_in : GoodIn wsX9_meetingOf wsX9_in := goodIn_r _ [14] (by decide +kernel) (by decide +kernel)
set_option maxRecDepth 20000 in
theorem gX9_meetingOf_X9_in : GoodIn wsX9_meetingOf (va_wsS RX9 99 yX9_in wsX9_in) := goodIn_app (goodIn_of _ (by decide +kernel)) ggX9_meetingOf_X9_in
set_option maxRecDepth 20000 in
theorem ggX9_meetingOf_X9_refused : GoodIn wsX9_meetingOf wsX9_refused := goodIn_r _ [18, 19, 20, 21, 22, 23, 24, 25, 26, 27, 28, 29, 30, 31, 32, 33, 34, 35, 36, 37, 38, 39, 40, 41, 42, 43, 44, 45, 46, 47, 48, 49, 50, 51, 52, 53, 54] (by decide +kernel) (by decide +kernel)
set_option maxRecDepth 20000 in
theorem gX9_meetingOf_X9_refused : GoodIn wsX9_meetingOf (wsV RX9 141 RX9 yX9_refused wsX9_refused) := goodIn_app (goodIn_of _ (by decide +kernel)) ggX9_meetingOf_X9_refused
theorem dX9_meetingOf_0 : decode cX9_meetingOf 0 = .ok (.aload_n 0, 1) := by decide +kernel
theorem dX9_meetingOf_1 : decode cX9_meetingOf 1 = .ok (.aload_n 0, 1) := by decide +kernel
theorem dX9_meetingOf_2 : decode cX9_meetingOf 2 = .ok (.iload_n 1, 1) := by decide +kernel
theorem dX9_meetingOf_3 : decode cX9_meetingOf 3 = .ok (.invokevirtual 157, 3) := by decide +kernel
theorem dX9_meetingOf_6 : decode cX9_meetingOf 6 = .ok (.ifCond .ne 7, 3) := by decide +kernel
theorem dX9_meetingOf_9 : decode cX9_meetingOf 9 = .ok (.iconst 1, 1) := by decide +kernel
theorem dX9_meetingOf_10 : decode cX9_meetingOf 10 = .ok (.goto 17, 3) := by decide +kernel
theorem dX9_meetingOf_13 : decode cX9_meetingOf 13 = .ok (.iload_n 2, 1) := by decide +kernel
theorem dX9_meetingOf_14 : decode cX9_meetingOf 14 = .ok (.iconst 0, 1) := by decide +kernel
theorem dX9_meetingOf_15 : decode cX9_meetingOf 15 = .ok (.iconst 4, 1) := by decide +kernel
theorem dX9_meetingOf_16 : decode cX9_meetingOf 16 = .ok (.invokestatic 99, 3) := by decide +kernel
theorem dX9_meetingOf_19 : decode cX9_meetingOf 19 = .ok (.ifCond .ne 7, 3) := by decide +kernel
theorem dX9_meetingOf_22 : decode cX9_meetingOf 22 = .ok (.iconst 2, 1) := by decide +kernel
theorem dX9_meetingOf_23 : decode cX9_meetingOf 23 = .ok (.goto 4, 3) := by decide +kernel
theorem dX9_meetingOf_26 : decode cX9_meetingOf 26 = .ok (.iconst 0, 1) := by decide +kernel
theorem dX9_meetingOf_27 : decode cX9_meetingOf 27 = .ok (.invokevirtual 141, 3) := by decide +kernel
theorem dX9_meetingOf_30 : decode cX9_meetingOf 30 = .ok (.ifCond .eq 5, 3) := by decide +kernel
theorem dX9_meetingOf_33 : decode cX9_meetingOf 33 = .ok (.iconst 0, 1) := by decide +kernel
theorem dX9_meetingOf_34 : decode cX9_meetingOf 34 = .ok (.ireturn, 1) := by decide +kernel
theorem dX9_meetingOf_35 : decode cX9_meetingOf 35 = .ok (.iload_n 2, 1) := by decide +kernel
theorem dX9_meetingOf_36 : decode cX9_meetingOf 36 = .ok (.ifCond .ne 12, 3) := by decide +kernel
theorem dX9_meetingOf_39 : decode cX9_meetingOf 39 = .ok (.aload_n 0, 1) := by decide +kernel
theorem dX9_meetingOf_40 : decode cX9_meetingOf 40 = .ok (.getfield 38, 3) := by decide +kernel
theorem dX9_meetingOf_43 : decode cX9_meetingOf 43 = .ok (.iload_n 1, 1) := by decide +kernel
theorem dX9_meetingOf_44 : decode cX9_meetingOf 44 = .ok (.iaload, 1) := by decide +kernel
theorem dX9_meetingOf_45 : decode cX9_meetingOf 45 = .ok (.goto 51, 3) := by decide +kernel
theorem dX9_meetingOf_48 : decode cX9_meetingOf 48 = .ok (.iload_n 2, 1) := by decide +kernel
theorem dX9_meetingOf_49 : decode cX9_meetingOf 49 = .ok (.iconst 1, 1) := by decide +kernel
theorem dX9_meetingOf_50 : decode cX9_meetingOf 50 = .ok (.if_icmp .ne 12, 3) := by decide +kernel
theorem dX9_meetingOf_53 : decode cX9_meetingOf 53 = .ok (.aload_n 0, 1) := by decide +kernel
theorem dX9_meetingOf_54 : decode cX9_meetingOf 54 = .ok (.getfield 44, 3) := by decide +kernel
theorem dX9_meetingOf_57 : decode cX9_meetingOf 57 = .ok (.iload_n 1, 1) := by decide +kernel
theorem dX9_meetingOf_58 : decode cX9_meetingOf 58 = .ok (.iaload, 1) := by decide +kernel
theorem dX9_meetingOf_59 : decode cX9_meetingOf 59 = .ok (.goto 37, 3) := by decide +kernel
theorem dX9_meetingOf_62 : decode cX9_meetingOf 62 = .ok (.iload_n 2, 1) := by decide +kernel
theorem dX9_meetingOf_63 : decode cX9_meetingOf 63 = .ok (.iconst 2, 1) := by decide +kernel
theorem dX9_meetingOf_64 : decode cX9_meetingOf 64 = .ok (.if_icmp .ne 12, 3) := by decide +kernel
theorem dX9_meetingOf_67 : decode cX9_meetingOf 67 = .ok (.aload_n 0, 1) := by decide +kernel
theorem dX9_meetingOf_68 : decode cX9_meetingOf 68 = .ok (.getfield 47, 3) := by decide +kernel
theorem dX9_meetingOf_71 : decode cX9_meetingOf 71 = .ok (.iload_n 1, 1) := by decide +kernel
theorem dX9_meetingOf_72 : decode cX9_meetingOf 72 = .ok (.iaload, 1) := by decide +kernel
theorem dX9_meetingOf_73 : decode cX9_meetingOf 73 = .ok (.goto 23, 3) := by decide +kernel
theorem dX9_meetingOf_76 : decode cX9_meetingOf 76 = .ok (.iload_n 2, 1) := by decide +kernel
theorem dX9_meetingOf_77 : decode cX9_meetingOf 77 = .ok (.iconst 3, 1) := by decide +kernel
theorem dX9_meetingOf_78 : decode cX9_meetingOf 78 = .ok (.if_icmp .ne 12, 3) := by decide +kernel
theorem dX9_meetingOf_81 : decode cX9_meetingOf 81 = .ok (.aload_n 0, 1) := by decide +kernel
theorem dX9_meetingOf_82 : decode cX9_meetingOf 82 = .ok (.getfield 50, 3) := by decide +kernel
theorem dX9_meetingOf_85 : decode cX9_meetingOf 85 = .ok (.iload_n 1, 1) := by decide +kernel
theorem dX9_meetingOf_86 : decode cX9_meetingOf 86 = .ok (.iaload, 1) := by decide +kernel
theorem dX9_meetingOf_87 : decode cX9_meetingOf 87 = .ok (.goto 9, 3) := by decide +kernel
theorem dX9_meetingOf_90 : decode cX9_meetingOf 90 = .ok (.aload_n 0, 1) := by decide +kernel
theorem dX9_meetingOf_91 : decode cX9_meetingOf 91 = .ok (.getfield 41, 3) := by decide +kernel
theorem dX9_meetingOf_94 : decode cX9_meetingOf 94 = .ok (.iload_n 1, 1) := by decide +kernel
theorem dX9_meetingOf_95 : decode cX9_meetingOf 95 = .ok (.iaload, 1) := by decide +kernel
theorem dX9_meetingOf_96 : decode cX9_meetingOf 96 = .ok (.ireturn, 1) := by decide +kernel
set_option maxRecDepth 20000 in
theorem ggX9_swapOf_X9_isSwap : GoodIn wsX9_swapOf wsX9_isSwap := goodIn_r _ [6, 7, 8, 9, 5, 10, 16, 17, 18, 19, 20, 21, 22, 23, 24, 25, 26, 27, 28, 29, 30, 31, 32, 33, 34, 35, 36, 37, 38, 39, 40, 41, 42, 43, 44, 45, 46, 47, 48, 49, 50] (by decide +kernel) (by decide +kernel)
set_option maxRecDepth 20000 in
theorem gX9_swapOf_X9_isSwap : GoodIn wsX9_swapOf (wsV RX9 163 RX9 yX9_isSwap wsX9_isSwap) := goodIn_app (goodIn_of _ (by decide +kernel)) ggX9_swapOf_X9_isSwap
set_option maxRecDepth 20000 in
theorem ggX9_swapOf_X9_refused : GoodIn wsX9_swapOf wsX9_refused := goodIn_r _ [14, 15, 16, 17, 18, 19, 20, 21, 22, 23, 24, 25, 26, 27, 28, 29, 30, 31, 32, 33, 34, 35, 36, 37, 38, 39, 40, 41, 42, 43, 44, 45, 46, 47, 48, 49, 50] (by decide +kernel) (by decide +kernel)
set_option maxRecDepth 20000 in
theorem gX9_swapOf_X9_refused : GoodIn wsX9_swapOf (wsV RX9 141 RX9 yX9_refused wsX9_refused) := goodIn_app (goodIn_of _ (by decide +kernel)) ggX9_swapOf_X9_refused
theorem dX9_swapOf_0 : decode cX9_swapOf 0 = .ok (.aload_n 0, 1) := by decide +kernel
theorem dX9_swapOf_1 : decode cX9_swapOf 1 = .ok (.aload_n 0, 1) := by decide +kernel
theorem dX9_swapOf_2 : decode cX9_swapOf 2 = .ok (.iload_n 1, 1) := by decide +kernel
theorem dX9_swapOf_3 : decode cX9_swapOf 3 = .ok (.invokevirtual 163, 3) := by decide +kernel
theorem dX9_swapOf_6 : decode cX9_swapOf 6 = .ok (.ifCond .eq 7, 3) := by decide +kernel
theorem dX9_swapOf_9 : decode cX9_swapOf 9 = .ok (.iconst 0, 1) := by decide +kernel
theorem dX9_swapOf_10 : decode cX9_swapOf 10 = .ok (.goto 4, 3) := by decide +kernel
theorem dX9_swapOf_13 : decode cX9_swapOf 13 = .ok (.iconst 1, 1) := by decide +kernel
theorem dX9_swapOf_14 : decode cX9_swapOf 14 = .ok (.invokevirtual 141, 3) := by decide +kernel
theorem dX9_swapOf_17 : decode cX9_swapOf 17 = .ok (.ifCond .eq 7, 3) := by decide +kernel
theorem dX9_swapOf_20 : decode cX9_swapOf 20 = .ok (.iconst 0, 1) := by decide +kernel
theorem dX9_swapOf_21 : decode cX9_swapOf 21 = .ok (.goto 9, 3) := by decide +kernel
theorem dX9_swapOf_24 : decode cX9_swapOf 24 = .ok (.aload_n 0, 1) := by decide +kernel
theorem dX9_swapOf_25 : decode cX9_swapOf 25 = .ok (.getfield 56, 3) := by decide +kernel
theorem dX9_swapOf_28 : decode cX9_swapOf 28 = .ok (.iload_n 1, 1) := by decide +kernel
theorem dX9_swapOf_29 : decode cX9_swapOf 29 = .ok (.iaload, 1) := by decide +kernel
theorem dX9_swapOf_30 : decode cX9_swapOf 30 = .ok (.ireturn, 1) := by decide +kernel
set_option maxRecDepth 20000 in
theorem ggX9_buildOf_X9_isBuild : GoodIn wsX9_buildOf wsX9_isBuild := goodIn_r _ [9, 10, 11, 12, 8, 13, 19, 20, 21, 22, 23, 24, 25, 26, 27, 28, 29, 30, 31, 32, 33, 34, 35, 36, 37, 38, 39, 40, 41, 42, 43, 44, 45, 46, 47, 48, 49, 50, 51, 52, 53] (by decide +kernel) (by decide +kernel)
set_option maxRecDepth 20000 in
theorem gX9_buildOf_X9_isBuild : GoodIn wsX9_buildOf (wsV RX9 169 RX9 yX9_isBuild wsX9_isBuild) := goodIn_app (goodIn_of _ (by decide +kernel)) ggX9_buildOf_X9_isBuild
set_option maxRecDepth 20000 in
theorem ggX9_buildOf_X9_in : GoodIn wsX9_buildOf wsX9_in := goodIn_r _ [13] (by decide +kernel) (by decide +kernel)
set_option maxRecDepth 20000 in
theorem gX9_buildOf_X9_in : GoodIn wsX9_buildOf (va_wsS RX9 99 yX9_in wsX9_in) := goodIn_app (goodIn_of _ (by decide +kernel)) ggX9_buildOf_X9_in
set_option maxRecDepth 20000 in
theorem ggX9_buildOf_X9_refused : GoodIn wsX9_buildOf wsX9_refused := goodIn_r _ [17, 18, 19, 20, 21, 22, 23, 24, 25, 26, 27, 28, 29, 30, 31, 32, 33, 34, 35, 36, 37, 38, 39, 40, 41, 42, 43, 44, 45, 46, 47, 48, 49, 50, 51, 52, 53] (by decide +kernel) (by decide +kernel)
set_option maxRecDepth 20000 in
theorem gX9_buildOf_X9_refused : GoodIn wsX9_buildOf (wsV RX9 141 RX9 yX9_refused wsX9_refused) := goodIn_app (goodIn_of _ (by decide +kernel)) ggX9_buildOf_X9_refused
theorem dX9_buildOf_0 : decode cX9_buildOf 0 = .ok (.aload_n 0, 1) := by decide +kernel
theorem dX9_buildOf_1 : decode cX9_buildOf 1 = .ok (.aload_n 0, 1) := by decide +kernel
theorem dX9_buildOf_2 : decode cX9_buildOf 2 = .ok (.iload_n 1, 1) := by decide +kernel
theorem dX9_buildOf_3 : decode cX9_buildOf 3 = .ok (.invokevirtual 169, 3) := by decide +kernel
theorem dX9_buildOf_6 : decode cX9_buildOf 6 = .ok (.ifCond .ne 7, 3) := by decide +kernel
theorem dX9_buildOf_9 : decode cX9_buildOf 9 = .ok (.iconst 1, 1) := by decide +kernel
theorem dX9_buildOf_10 : decode cX9_buildOf 10 = .ok (.goto 17, 3) := by decide +kernel
theorem dX9_buildOf_13 : decode cX9_buildOf 13 = .ok (.iload_n 2, 1) := by decide +kernel
theorem dX9_buildOf_14 : decode cX9_buildOf 14 = .ok (.iconst 0, 1) := by decide +kernel
theorem dX9_buildOf_15 : decode cX9_buildOf 15 = .ok (.iconst 3, 1) := by decide +kernel
theorem dX9_buildOf_16 : decode cX9_buildOf 16 = .ok (.invokestatic 99, 3) := by decide +kernel
theorem dX9_buildOf_19 : decode cX9_buildOf 19 = .ok (.ifCond .ne 7, 3) := by decide +kernel
theorem dX9_buildOf_22 : decode cX9_buildOf 22 = .ok (.iconst 2, 1) := by decide +kernel
theorem dX9_buildOf_23 : decode cX9_buildOf 23 = .ok (.goto 4, 3) := by decide +kernel
theorem dX9_buildOf_26 : decode cX9_buildOf 26 = .ok (.iconst 0, 1) := by decide +kernel
theorem dX9_buildOf_27 : decode cX9_buildOf 27 = .ok (.invokevirtual 141, 3) := by decide +kernel
theorem dX9_buildOf_30 : decode cX9_buildOf 30 = .ok (.ifCond .eq 5, 3) := by decide +kernel
theorem dX9_buildOf_33 : decode cX9_buildOf 33 = .ok (.iconst 0, 1) := by decide +kernel
theorem dX9_buildOf_34 : decode cX9_buildOf 34 = .ok (.ireturn, 1) := by decide +kernel
theorem dX9_buildOf_35 : decode cX9_buildOf 35 = .ok (.iload_n 2, 1) := by decide +kernel
theorem dX9_buildOf_36 : decode cX9_buildOf 36 = .ok (.ifCond .ne 12, 3) := by decide +kernel
theorem dX9_buildOf_39 : decode cX9_buildOf 39 = .ok (.aload_n 0, 1) := by decide +kernel
theorem dX9_buildOf_40 : decode cX9_buildOf 40 = .ok (.getfield 74, 3) := by decide +kernel
theorem dX9_buildOf_43 : decode cX9_buildOf 43 = .ok (.iload_n 1, 1) := by decide +kernel
theorem dX9_buildOf_44 : decode cX9_buildOf 44 = .ok (.iaload, 1) := by decide +kernel
theorem dX9_buildOf_45 : decode cX9_buildOf 45 = .ok (.goto 37, 3) := by decide +kernel
theorem dX9_buildOf_48 : decode cX9_buildOf 48 = .ok (.iload_n 2, 1) := by decide +kernel
theorem dX9_buildOf_49 : decode cX9_buildOf 49 = .ok (.iconst 1, 1) := by decide +kernel
theorem dX9_buildOf_50 : decode cX9_buildOf 50 = .ok (.if_icmp .ne 12, 3) := by decide +kernel
theorem dX9_buildOf_53 : decode cX9_buildOf 53 = .ok (.aload_n 0, 1) := by decide +kernel
theorem dX9_buildOf_54 : decode cX9_buildOf 54 = .ok (.getfield 86, 3) := by decide +kernel
theorem dX9_buildOf_57 : decode cX9_buildOf 57 = .ok (.iload_n 1, 1) := by decide +kernel
theorem dX9_buildOf_58 : decode cX9_buildOf 58 = .ok (.iaload, 1) := by decide +kernel
theorem dX9_buildOf_59 : decode cX9_buildOf 59 = .ok (.goto 23, 3) := by decide +kernel
theorem dX9_buildOf_62 : decode cX9_buildOf 62 = .ok (.iload_n 2, 1) := by decide +kernel
theorem dX9_buildOf_63 : decode cX9_buildOf 63 = .ok (.iconst 2, 1) := by decide +kernel
theorem dX9_buildOf_64 : decode cX9_buildOf 64 = .ok (.if_icmp .ne 12, 3) := by decide +kernel
theorem dX9_buildOf_67 : decode cX9_buildOf 67 = .ok (.aload_n 0, 1) := by decide +kernel
theorem dX9_buildOf_68 : decode cX9_buildOf 68 = .ok (.getfield 89, 3) := by decide +kernel
theorem dX9_buildOf_71 : decode cX9_buildOf 71 = .ok (.iload_n 1, 1) := by decide +kernel
theorem dX9_buildOf_72 : decode cX9_buildOf 72 = .ok (.iaload, 1) := by decide +kernel
theorem dX9_buildOf_73 : decode cX9_buildOf 73 = .ok (.goto 9, 3) := by decide +kernel
theorem dX9_buildOf_76 : decode cX9_buildOf 76 = .ok (.aload_n 0, 1) := by decide +kernel
theorem dX9_buildOf_77 : decode cX9_buildOf 77 = .ok (.getfield 92, 3) := by decide +kernel
theorem dX9_buildOf_80 : decode cX9_buildOf 80 = .ok (.iload_n 1, 1) := by decide +kernel
theorem dX9_buildOf_81 : decode cX9_buildOf 81 = .ok (.iaload, 1) := by decide +kernel
theorem dX9_buildOf_82 : decode cX9_buildOf 82 = .ok (.ireturn, 1) := by decide +kernel
set_option maxRecDepth 20000 in
theorem ggX9_beganAnew_X9_isBuild : GoodIn wsX9_beganAnew wsX9_isBuild := goodIn_r _ [6, 7, 8, 9, 5, 10, 16, 17, 18, 19, 20, 21, 22, 23, 24, 25, 26, 27, 28, 29, 30, 31, 32, 33, 34, 35, 36, 37, 38, 39, 40, 41, 42, 43, 44, 45, 46, 47, 48, 49, 50] (by decide +kernel) (by decide +kernel)
set_option maxRecDepth 20000 in
theorem gX9_beganAnew_X9_isBuild : GoodIn wsX9_beganAnew (wsV RX9 169 RX9 yX9_isBuild wsX9_isBuild) := goodIn_app (goodIn_of _ (by decide +kernel)) ggX9_beganAnew_X9_isBuild
set_option maxRecDepth 20000 in
theorem ggX9_beganAnew_X9_refused : GoodIn wsX9_beganAnew wsX9_refused := goodIn_r _ [14, 15, 16, 17, 18, 19, 20, 21, 22, 23, 24, 25, 26, 27, 28, 29, 30, 31, 32, 33, 34, 35, 36, 37, 38, 39, 40, 41, 42, 43, 44, 45, 46, 47, 48, 49, 50] (by decide +kernel) (by decide +kernel)
set_option maxRecDepth 20000 in
theorem gX9_beganAnew_X9_refused : GoodIn wsX9_beganAnew (wsV RX9 141 RX9 yX9_refused wsX9_refused) := goodIn_app (goodIn_of _ (by decide +kernel)) ggX9_beganAnew_X9_refused
theorem dX9_beganAnew_0 : decode cX9_beganAnew 0 = .ok (.aload_n 0, 1) := by decide +kernel
theorem dX9_beganAnew_1 : decode cX9_beganAnew 1 = .ok (.aload_n 0, 1) := by decide +kernel
theorem dX9_beganAnew_2 : decode cX9_beganAnew 2 = .ok (.iload_n 1, 1) := by decide +kernel
theorem dX9_beganAnew_3 : decode cX9_beganAnew 3 = .ok (.invokevirtual 169, 3) := by decide +kernel
theorem dX9_beganAnew_6 : decode cX9_beganAnew 6 = .ok (.ifCond .eq 7, 3) := by decide +kernel
theorem dX9_beganAnew_9 : decode cX9_beganAnew 9 = .ok (.iconst 0, 1) := by decide +kernel
theorem dX9_beganAnew_10 : decode cX9_beganAnew 10 = .ok (.goto 4, 3) := by decide +kernel
theorem dX9_beganAnew_13 : decode cX9_beganAnew 13 = .ok (.iconst 1, 1) := by decide +kernel
theorem dX9_beganAnew_14 : decode cX9_beganAnew 14 = .ok (.invokevirtual 141, 3) := by decide +kernel
theorem dX9_beganAnew_17 : decode cX9_beganAnew 17 = .ok (.ifCond .eq 7, 3) := by decide +kernel
theorem dX9_beganAnew_20 : decode cX9_beganAnew 20 = .ok (.iconst 0, 1) := by decide +kernel
theorem dX9_beganAnew_21 : decode cX9_beganAnew 21 = .ok (.goto 9, 3) := by decide +kernel
theorem dX9_beganAnew_24 : decode cX9_beganAnew 24 = .ok (.aload_n 0, 1) := by decide +kernel
theorem dX9_beganAnew_25 : decode cX9_beganAnew 25 = .ok (.getfield 89, 3) := by decide +kernel
theorem dX9_beganAnew_28 : decode cX9_beganAnew 28 = .ok (.iload_n 1, 1) := by decide +kernel
theorem dX9_beganAnew_29 : decode cX9_beganAnew 29 = .ok (.iaload, 1) := by decide +kernel
theorem dX9_beganAnew_30 : decode cX9_beganAnew 30 = .ok (.ireturn, 1) := by decide +kernel
set_option maxRecDepth 20000 in
theorem ggX9_has_X9_isMachine : GoodIn wsX9_has wsX9_isMachine := goodIn_r _ [5, 6, 7, 8, 4, 9, 25, 26, 27, 28, 29, 30, 31, 32, 33, 34, 35, 36, 37, 38, 39, 40, 41, 42, 43, 44, 45, 46, 47, 48, 49, 50, 51, 52, 53, 54, 55, 56, 57, 58, 59] (by decide +kernel) (by decide +kernel)
set_option maxRecDepth 20000 in
theorem gX9_has_X9_isMachine : GoodIn wsX9_has (wsV RX9 147 RX9 yX9_isMachine wsX9_isMachine) := goodIn_app (goodIn_of _ (by decide +kernel)) ggX9_has_X9_isMachine
set_option maxRecDepth 20000 in
theorem ggX9_has_X9_in : GoodIn wsX9_has wsX9_in := goodIn_r _ [9] (by decide +kernel) (by decide +kernel)
set_option maxRecDepth 20000 in
theorem gX9_has_X9_in : GoodIn wsX9_has (va_wsS RX9 99 yX9_in wsX9_in) := goodIn_app (goodIn_of _ (by decide +kernel)) ggX9_has_X9_in
set_option maxRecDepth 20000 in
theorem ggX9_has_X9_refused : GoodIn wsX9_has wsX9_refused := goodIn_r _ [13, 14, 25, 26, 27, 28, 29, 30, 31, 32, 33, 34, 35, 36, 37, 38, 39, 40, 41, 42, 43, 44, 45, 46, 47, 48, 49, 50, 51, 52, 53, 54, 55, 56, 57, 58, 59] (by decide +kernel) (by decide +kernel)
set_option maxRecDepth 20000 in
theorem gX9_has_X9_refused : GoodIn wsX9_has (wsV RX9 141 RX9 yX9_refused wsX9_refused) := goodIn_app (goodIn_of _ (by decide +kernel)) ggX9_has_X9_refused
set_option maxRecDepth 20000 in
theorem ggX9_has_X9_hasIn : GoodIn wsX9_has wsX9_hasIn := goodIn_r _ [18, 19, 20, 21, 22, 23, 24, 7, 8, 4, 9, 25, 26, 27, 28, 29, 30, 31, 32, 33, 34, 35, 36, 37, 38, 39, 40, 41, 42, 43, 44, 45, 46, 47, 48, 49, 50, 51, 52, 53, 54, 55, 56, 57, 58, 59] (by decide +kernel) (by decide +kernel)
set_option maxRecDepth 20000 in
theorem gX9_has_X9_hasIn : GoodIn wsX9_has (wsV RX9 172 RX9 yX9_hasIn wsX9_hasIn) := goodIn_app (goodIn_of _ (by decide +kernel)) ggX9_has_X9_hasIn
theorem dX9_has_0 : decode cX9_has 0 = .ok (.aload_n 0, 1) := by decide +kernel
theorem dX9_has_1 : decode cX9_has 1 = .ok (.aload_n 0, 1) := by decide +kernel
theorem dX9_has_2 : decode cX9_has 2 = .ok (.iload_n 1, 1) := by decide +kernel
theorem dX9_has_3 : decode cX9_has 3 = .ok (.invokevirtual 147, 3) := by decide +kernel
theorem dX9_has_6 : decode cX9_has 6 = .ok (.ifCond .ne 7, 3) := by decide +kernel
theorem dX9_has_9 : decode cX9_has 9 = .ok (.iconst 1, 1) := by decide +kernel
theorem dX9_has_10 : decode cX9_has 10 = .ok (.goto 19, 3) := by decide +kernel
theorem dX9_has_13 : decode cX9_has 13 = .ok (.iload_n 2, 1) := by decide +kernel
theorem dX9_has_14 : decode cX9_has 14 = .ok (.iconst 0, 1) := by decide +kernel
theorem dX9_has_15 : decode cX9_has 15 = .ok (.sipush 399, 3) := by decide +kernel
theorem dX9_has_18 : decode cX9_has 18 = .ok (.invokestatic 99, 3) := by decide +kernel
theorem dX9_has_21 : decode cX9_has 21 = .ok (.ifCond .ne 7, 3) := by decide +kernel
theorem dX9_has_24 : decode cX9_has 24 = .ok (.iconst 2, 1) := by decide +kernel
theorem dX9_has_25 : decode cX9_has 25 = .ok (.goto 4, 3) := by decide +kernel
theorem dX9_has_28 : decode cX9_has 28 = .ok (.iconst 0, 1) := by decide +kernel
theorem dX9_has_29 : decode cX9_has 29 = .ok (.invokevirtual 141, 3) := by decide +kernel
theorem dX9_has_32 : decode cX9_has 32 = .ok (.ifCond .eq 7, 3) := by decide +kernel
theorem dX9_has_35 : decode cX9_has 35 = .ok (.iconst 0, 1) := by decide +kernel
theorem dX9_has_36 : decode cX9_has 36 = .ok (.goto 9, 3) := by decide +kernel
theorem dX9_has_39 : decode cX9_has 39 = .ok (.aload_n 0, 1) := by decide +kernel
theorem dX9_has_40 : decode cX9_has 40 = .ok (.iload_n 1, 1) := by decide +kernel
theorem dX9_has_41 : decode cX9_has 41 = .ok (.iload_n 2, 1) := by decide +kernel
theorem dX9_has_42 : decode cX9_has 42 = .ok (.invokevirtual 172, 3) := by decide +kernel
theorem dX9_has_45 : decode cX9_has 45 = .ok (.ireturn, 1) := by decide +kernel
set_option maxRecDepth 20000 in
theorem ggX9_isFree_X9_isPerson : GoodIn wsX9_isFree wsX9_isPerson := goodIn_r _ [4, 5, 6, 3, 7] (by decide +kernel) (by decide +kernel)
set_option maxRecDepth 20000 in
theorem gX9_isFree_X9_isPerson : GoodIn wsX9_isFree (va_wsS RX9 137 yX9_isPerson wsX9_isPerson) := goodIn_app (goodIn_of _ (by decide +kernel)) ggX9_isFree_X9_isPerson
set_option maxRecDepth 20000 in
theorem ggX9_isFree_X9_in : GoodIn wsX9_isFree wsX9_in := goodIn_r _ [7] (by decide +kernel) (by decide +kernel)
set_option maxRecDepth 20000 in
theorem gX9_isFree_X9_in : GoodIn wsX9_isFree (va_wsS RX9 99 yX9_in wsX9_in) := goodIn_app (goodIn_of _ (by decide +kernel)) ggX9_isFree_X9_in
set_option maxRecDepth 20000 in
theorem ggX9_isFree_X9_refused : GoodIn wsX9_isFree wsX9_refused := goodIn_r _ [11, 12, 31, 32, 33, 34, 35, 36, 37, 38, 39, 40, 41, 42, 43, 44, 45, 46, 47, 48, 49, 50, 51, 52, 53, 54, 55, 56, 57, 58, 59, 60, 61, 62, 63, 64, 65] (by decide +kernel) (by decide +kernel)
set_option maxRecDepth 20000 in
theorem gX9_isFree_X9_refused : GoodIn wsX9_isFree (wsV RX9 141 RX9 yX9_refused wsX9_refused) := goodIn_app (goodIn_of _ (by decide +kernel)) ggX9_isFree_X9_refused
set_option maxRecDepth 20000 in
theorem ggX9_isFree_X9_hasMeeting : GoodIn wsX9_isFree wsX9_hasMeeting := goodIn_r _ [16, 17, 18, 19, 20, 21, 3, 22, 23, 24, 25, 5, 6, 7, 31, 32, 33, 34, 35, 36, 37, 38, 39, 40, 41, 42, 43, 44, 45, 46, 47, 48, 49, 50, 51, 52, 53, 54, 55, 56, 57, 58, 59, 60, 61, 62, 63, 64, 65] (by decide +kernel) (by decide +kernel)
set_option maxRecDepth 20000 in
theorem gX9_isFree_X9_hasMeeting : GoodIn wsX9_isFree (wsV RX9 122 RX9 yX9_hasMeeting wsX9_hasMeeting) := goodIn_app (goodIn_of _ (by decide +kernel)) ggX9_isFree_X9_hasMeeting
set_option maxRecDepth 20000 in
theorem ggX9_isFree_X9_isOnLeave : GoodIn wsX9_isFree wsX9_isOnLeave := goodIn_r _ [29, 30, 31, 32, 33, 34, 35, 36, 37, 38, 39, 40, 41, 42, 43, 44, 45, 46, 47, 48, 49, 50, 51, 52, 53, 54, 55, 56, 57, 58, 59, 60, 61, 62, 63, 64, 65] (by decide +kernel) (by decide +kernel)
set_option maxRecDepth 20000 in
theorem gX9_isFree_X9_isOnLeave : GoodIn wsX9_isFree (wsV RX9 125 RX9 yX9_isOnLeave wsX9_isOnLeave) := goodIn_app (goodIn_of _ (by decide +kernel)) ggX9_isFree_X9_isOnLeave
theorem dX9_isFree_0 : decode cX9_isFree 0 = .ok (.aload_n 0, 1) := by decide +kernel
theorem dX9_isFree_1 : decode cX9_isFree 1 = .ok (.iload_n 1, 1) := by decide +kernel
theorem dX9_isFree_2 : decode cX9_isFree 2 = .ok (.invokestatic 137, 3) := by decide +kernel
theorem dX9_isFree_5 : decode cX9_isFree 5 = .ok (.ifCond .ne 7, 3) := by decide +kernel
theorem dX9_isFree_8 : decode cX9_isFree 8 = .ok (.iconst 1, 1) := by decide +kernel
theorem dX9_isFree_9 : decode cX9_isFree 9 = .ok (.goto 19, 3) := by decide +kernel
theorem dX9_isFree_12 : decode cX9_isFree 12 = .ok (.iload_n 2, 1) := by decide +kernel
theorem dX9_isFree_13 : decode cX9_isFree 13 = .ok (.iconst 0, 1) := by decide +kernel
theorem dX9_isFree_14 : decode cX9_isFree 14 = .ok (.sipush 399, 3) := by decide +kernel
theorem dX9_isFree_17 : decode cX9_isFree 17 = .ok (.invokestatic 99, 3) := by decide +kernel
theorem dX9_isFree_20 : decode cX9_isFree 20 = .ok (.ifCond .ne 7, 3) := by decide +kernel
theorem dX9_isFree_23 : decode cX9_isFree 23 = .ok (.iconst 2, 1) := by decide +kernel
theorem dX9_isFree_24 : decode cX9_isFree 24 = .ok (.goto 4, 3) := by decide +kernel
theorem dX9_isFree_27 : decode cX9_isFree 27 = .ok (.iconst 0, 1) := by decide +kernel
theorem dX9_isFree_28 : decode cX9_isFree 28 = .ok (.invokevirtual 141, 3) := by decide +kernel
theorem dX9_isFree_31 : decode cX9_isFree 31 = .ok (.ifCond .eq 5, 3) := by decide +kernel
theorem dX9_isFree_34 : decode cX9_isFree 34 = .ok (.iconst 0, 1) := by decide +kernel
theorem dX9_isFree_35 : decode cX9_isFree 35 = .ok (.ireturn, 1) := by decide +kernel
theorem dX9_isFree_36 : decode cX9_isFree 36 = .ok (.aload_n 0, 1) := by decide +kernel
theorem dX9_isFree_37 : decode cX9_isFree 37 = .ok (.iload_n 1, 1) := by decide +kernel
theorem dX9_isFree_38 : decode cX9_isFree 38 = .ok (.iload_n 2, 1) := by decide +kernel
theorem dX9_isFree_39 : decode cX9_isFree 39 = .ok (.iconst (-1), 1) := by decide +kernel
theorem dX9_isFree_40 : decode cX9_isFree 40 = .ok (.invokevirtual 122, 3) := by decide +kernel
theorem dX9_isFree_43 : decode cX9_isFree 43 = .ok (.ifCond .ne 16, 3) := by decide +kernel
theorem dX9_isFree_46 : decode cX9_isFree 46 = .ok (.aload_n 0, 1) := by decide +kernel
theorem dX9_isFree_47 : decode cX9_isFree 47 = .ok (.iload_n 1, 1) := by decide +kernel
theorem dX9_isFree_48 : decode cX9_isFree 48 = .ok (.iload_n 2, 1) := by decide +kernel
theorem dX9_isFree_49 : decode cX9_isFree 49 = .ok (.invokevirtual 125, 3) := by decide +kernel
theorem dX9_isFree_52 : decode cX9_isFree 52 = .ok (.ifCond .ne 7, 3) := by decide +kernel
theorem dX9_isFree_55 : decode cX9_isFree 55 = .ok (.iconst 1, 1) := by decide +kernel
theorem dX9_isFree_56 : decode cX9_isFree 56 = .ok (.goto 4, 3) := by decide +kernel
theorem dX9_isFree_59 : decode cX9_isFree 59 = .ok (.iconst 0, 1) := by decide +kernel
theorem dX9_isFree_60 : decode cX9_isFree 60 = .ok (.ireturn, 1) := by decide +kernel
set_option maxRecDepth 20000 in
theorem ggX9_diary_X9_isMachine : GoodIn wsX9_diary wsX9_isMachine := goodIn_r _ [7, 8, 9, 10, 6, 11, 45, 46, 47, 48, 49, 50, 51, 52, 53, 54, 55, 56, 57, 58, 59, 60, 61, 62, 63, 64, 65, 66, 67, 68, 69, 70, 71, 72, 73, 74, 75, 76, 77, 78, 79] (by decide +kernel) (by decide +kernel)
set_option maxRecDepth 20000 in
theorem gX9_diary_X9_isMachine : GoodIn wsX9_diary (wsV RX9 147 RX9 yX9_isMachine wsX9_isMachine) := goodIn_app (goodIn_of _ (by decide +kernel)) ggX9_diary_X9_isMachine
set_option maxRecDepth 20000 in
theorem ggX9_diary_X9_in : GoodIn wsX9_diary wsX9_in := goodIn_r _ [11] (by decide +kernel) (by decide +kernel)
set_option maxRecDepth 20000 in
theorem gX9_diary_X9_in : GoodIn wsX9_diary (va_wsS RX9 99 yX9_in wsX9_in) := goodIn_app (goodIn_of _ (by decide +kernel)) ggX9_diary_X9_in
set_option maxRecDepth 20000 in
theorem ggX9_diary_X9_refused : GoodIn wsX9_diary wsX9_refused := goodIn_r _ [15, 16, 45, 46, 47, 48, 49, 50, 51, 52, 53, 54, 55, 56, 57, 58, 59, 60, 61, 62, 63, 64, 65, 66, 67, 68, 69, 70, 71, 72, 73, 74, 75, 76, 77, 78, 79] (by decide +kernel) (by decide +kernel)
set_option maxRecDepth 20000 in
theorem gX9_diary_X9_refused : GoodIn wsX9_diary (wsV RX9 141 RX9 yX9_refused wsX9_refused) := goodIn_app (goodIn_of _ (by decide +kernel)) ggX9_diary_X9_refused
set_option maxRecDepth 20000 in
theorem ggX9_diary_X9_isPromised : GoodIn wsX9_diary wsX9_isPromised := goodIn_r _ [20, 21, 22, 23, 24, 25, 6, 26, 27, 28, 29, 9, 10, 11, 45, 46, 47, 48, 49, 50, 51, 52, 53, 54, 55, 56, 57, 58, 59, 60, 61, 62, 63, 64, 65, 66, 67, 68, 69, 70, 71, 72, 73, 74, 75, 76, 77, 78, 79] (by decide +kernel) (by decide +kernel)
set_option maxRecDepth 20000 in
theorem gX9_diary_X9_isPromised : GoodIn wsX9_diary (wsV RX9 128 RX9 yX9_isPromised wsX9_isPromised) := goodIn_app (goodIn_of _ (by decide +kernel)) ggX9_diary_X9_isPromised
set_option maxRecDepth 20000 in
theorem ggX9_diary_X9_isBuilding : GoodIn wsX9_diary wsX9_isBuilding := goodIn_r _ [33, 34, 35, 36, 37, 38, 9, 10, 6, 11, 45, 46, 47, 48, 49, 50, 51, 52, 53, 54, 55, 56, 57, 58, 59, 60, 61, 62, 63, 64, 65, 66, 67, 68, 69, 70, 71, 72, 73, 74, 75, 76, 77, 78, 79] (by decide +kernel) (by decide +kernel)
set_option maxRecDepth 20000 in
theorem gX9_diary_X9_isBuilding : GoodIn wsX9_diary (wsV RX9 131 RX9 yX9_isBuilding wsX9_isBuilding) := goodIn_app (goodIn_of _ (by decide +kernel)) ggX9_diary_X9_isBuilding
set_option maxRecDepth 20000 in
theorem ggX9_diary_X9_isBroken : GoodIn wsX9_diary wsX9_isBroken := goodIn_r _ [42, 43, 44, 9, 10, 6, 11, 45, 46, 47, 48, 49, 50, 51, 52, 53, 54, 55, 56, 57, 58, 59, 60, 61, 62, 63, 64, 65, 66, 67, 68, 69, 70, 71, 72, 73, 74, 75, 76, 77, 78, 79] (by decide +kernel) (by decide +kernel)
set_option maxRecDepth 20000 in
theorem gX9_diary_X9_isBroken : GoodIn wsX9_diary (wsV RX9 134 RX9 yX9_isBroken wsX9_isBroken) := goodIn_app (goodIn_of _ (by decide +kernel)) ggX9_diary_X9_isBroken
theorem dX9_diary_0 : decode cX9_diary 0 = .ok (.aload_n 0, 1) := by decide +kernel
theorem dX9_diary_1 : decode cX9_diary 1 = .ok (.iload_n 1, 1) := by decide +kernel
theorem dX9_diary_2 : decode cX9_diary 2 = .ok (.invokevirtual 147, 3) := by decide +kernel
theorem dX9_diary_5 : decode cX9_diary 5 = .ok (.ifCond .eq 11, 3) := by decide +kernel
theorem dX9_diary_8 : decode cX9_diary 8 = .ok (.iload_n 3, 1) := by decide +kernel
theorem dX9_diary_9 : decode cX9_diary 9 = .ok (.ifCond .lt 7, 3) := by decide +kernel
theorem dX9_diary_12 : decode cX9_diary 12 = .ok (.iconst 1, 1) := by decide +kernel
theorem dX9_diary_13 : decode cX9_diary 13 = .ok (.goto 4, 3) := by decide +kernel
theorem dX9_diary_16 : decode cX9_diary 16 = .ok (.iconst 0, 1) := by decide +kernel
theorem dX9_diary_17 : decode cX9_diary 17 = .ok (.istore 4, 2) := by decide +kernel
theorem dX9_diary_19 : decode cX9_diary 19 = .ok (.aload_n 0, 1) := by decide +kernel
theorem dX9_diary_20 : decode cX9_diary 20 = .ok (.iload 4, 2) := by decide +kernel
theorem dX9_diary_22 : decode cX9_diary 22 = .ok (.ifCond .ne 7, 3) := by decide +kernel
theorem dX9_diary_25 : decode cX9_diary 25 = .ok (.iconst 1, 1) := by decide +kernel
theorem dX9_diary_26 : decode cX9_diary 26 = .ok (.goto 18, 3) := by decide +kernel
theorem dX9_diary_29 : decode cX9_diary 29 = .ok (.iload_n 2, 1) := by decide +kernel
theorem dX9_diary_30 : decode cX9_diary 30 = .ok (.iconst 0, 1) := by decide +kernel
theorem dX9_diary_31 : decode cX9_diary 31 = .ok (.bipush 49, 2) := by decide +kernel
theorem dX9_diary_33 : decode cX9_diary 33 = .ok (.invokestatic 99, 3) := by decide +kernel
theorem dX9_diary_36 : decode cX9_diary 36 = .ok (.ifCond .ne 7, 3) := by decide +kernel
theorem dX9_diary_39 : decode cX9_diary 39 = .ok (.iconst 2, 1) := by decide +kernel
theorem dX9_diary_40 : decode cX9_diary 40 = .ok (.goto 4, 3) := by decide +kernel
theorem dX9_diary_43 : decode cX9_diary 43 = .ok (.iconst 0, 1) := by decide +kernel
theorem dX9_diary_44 : decode cX9_diary 44 = .ok (.invokevirtual 141, 3) := by decide +kernel
theorem dX9_diary_47 : decode cX9_diary 47 = .ok (.ifCond .eq 5, 3) := by decide +kernel
theorem dX9_diary_50 : decode cX9_diary 50 = .ok (.iconst 0, 1) := by decide +kernel
theorem dX9_diary_51 : decode cX9_diary 51 = .ok (.ireturn, 1) := by decide +kernel
theorem dX9_diary_52 : decode cX9_diary 52 = .ok (.iload_n 3, 1) := by decide +kernel
theorem dX9_diary_53 : decode cX9_diary 53 = .ok (.istore 5, 2) := by decide +kernel
theorem dX9_diary_55 : decode cX9_diary 55 = .ok (.bipush 8, 2) := by decide +kernel
theorem dX9_diary_57 : decode cX9_diary 57 = .ok (.iload_n 2, 1) := by decide +kernel
theorem dX9_diary_58 : decode cX9_diary 58 = .ok (.imul, 1) := by decide +kernel
theorem dX9_diary_59 : decode cX9_diary 59 = .ok (.bipush 8, 2) := by decide +kernel
theorem dX9_diary_61 : decode cX9_diary 61 = .ok (.iadd, 1) := by decide +kernel
theorem dX9_diary_62 : decode cX9_diary 62 = .ok (.iconst 1, 1) := by decide +kernel
theorem dX9_diary_63 : decode cX9_diary 63 = .ok (.isub, 1) := by decide +kernel
theorem dX9_diary_64 : decode cX9_diary 64 = .ok (.istore 6, 2) := by decide +kernel
theorem dX9_diary_66 : decode cX9_diary 66 = .ok (.iload 6, 2) := by decide +kernel
theorem dX9_diary_68 : decode cX9_diary 68 = .ok (.bipush 8, 2) := by decide +kernel
theorem dX9_diary_70 : decode cX9_diary 70 = .ok (.iload_n 2, 1) := by decide +kernel
theorem dX9_diary_71 : decode cX9_diary 71 = .ok (.imul, 1) := by decide +kernel
theorem dX9_diary_72 : decode cX9_diary 72 = .ok (.if_icmp .lt 130, 3) := by decide +kernel
theorem dX9_diary_75 : decode cX9_diary 75 = .ok (.aload_n 0, 1) := by decide +kernel
theorem dX9_diary_76 : decode cX9_diary 76 = .ok (.iload_n 1, 1) := by decide +kernel
theorem dX9_diary_77 : decode cX9_diary 77 = .ok (.iload 6, 2) := by decide +kernel
theorem dX9_diary_79 : decode cX9_diary 79 = .ok (.iconst (-1), 1) := by decide +kernel
theorem dX9_diary_80 : decode cX9_diary 80 = .ok (.invokevirtual 128, 3) := by decide +kernel
theorem dX9_diary_83 : decode cX9_diary 83 = .ok (.ifCond .ne 23, 3) := by decide +kernel
theorem dX9_diary_86 : decode cX9_diary 86 = .ok (.aload_n 0, 1) := by decide +kernel
theorem dX9_diary_87 : decode cX9_diary 87 = .ok (.iload_n 1, 1) := by decide +kernel
theorem dX9_diary_88 : decode cX9_diary 88 = .ok (.iload 6, 2) := by decide +kernel
theorem dX9_diary_90 : decode cX9_diary 90 = .ok (.invokevirtual 131, 3) := by decide +kernel
theorem dX9_diary_93 : decode cX9_diary 93 = .ok (.ifCond .ne 13, 3) := by decide +kernel
theorem dX9_diary_96 : decode cX9_diary 96 = .ok (.aload_n 0, 1) := by decide +kernel
theorem dX9_diary_97 : decode cX9_diary 97 = .ok (.iload_n 1, 1) := by decide +kernel
theorem dX9_diary_98 : decode cX9_diary 98 = .ok (.iload 6, 2) := by decide +kernel
theorem dX9_diary_100 : decode cX9_diary 100 = .ok (.invokevirtual 134, 3) := by decide +kernel
theorem dX9_diary_103 : decode cX9_diary 103 = .ok (.ifCond .ne 7, 3) := by decide +kernel
theorem dX9_diary_106 : decode cX9_diary 106 = .ok (.iconst 1, 1) := by decide +kernel
theorem dX9_diary_107 : decode cX9_diary 107 = .ok (.goto 4, 3) := by decide +kernel
theorem dX9_diary_110 : decode cX9_diary 110 = .ok (.iconst 0, 1) := by decide +kernel
theorem dX9_diary_111 : decode cX9_diary 111 = .ok (.istore 7, 2) := by decide +kernel
theorem dX9_diary_113 : decode cX9_diary 113 = .ok (.iload 5, 2) := by decide +kernel
theorem dX9_diary_115 : decode cX9_diary 115 = .ok (.ifCond .ne 52, 3) := by decide +kernel
theorem dX9_diary_118 : decode cX9_diary 118 = .ok (.aload_n 0, 1) := by decide +kernel
theorem dX9_diary_119 : decode cX9_diary 119 = .ok (.iload_n 1, 1) := by decide +kernel
theorem dX9_diary_120 : decode cX9_diary 120 = .ok (.iload 6, 2) := by decide +kernel
theorem dX9_diary_122 : decode cX9_diary 122 = .ok (.iconst (-1), 1) := by decide +kernel
theorem dX9_diary_123 : decode cX9_diary 123 = .ok (.invokevirtual 128, 3) := by decide +kernel
theorem dX9_diary_126 : decode cX9_diary 126 = .ok (.ifCond .eq 8, 3) := by decide +kernel
theorem dX9_diary_129 : decode cX9_diary 129 = .ok (.bipush 77, 2) := by decide +kernel
theorem dX9_diary_131 : decode cX9_diary 131 = .ok (.goto 35, 3) := by decide +kernel
theorem dX9_diary_134 : decode cX9_diary 134 = .ok (.aload_n 0, 1) := by decide +kernel
theorem dX9_diary_135 : decode cX9_diary 135 = .ok (.iload_n 1, 1) := by decide +kernel
theorem dX9_diary_136 : decode cX9_diary 136 = .ok (.iload 6, 2) := by decide +kernel
theorem dX9_diary_138 : decode cX9_diary 138 = .ok (.invokevirtual 131, 3) := by decide +kernel
theorem dX9_diary_141 : decode cX9_diary 141 = .ok (.ifCond .eq 8, 3) := by decide +kernel
theorem dX9_diary_144 : decode cX9_diary 144 = .ok (.bipush 66, 2) := by decide +kernel
theorem dX9_diary_146 : decode cX9_diary 146 = .ok (.goto 20, 3) := by decide +kernel
theorem dX9_diary_149 : decode cX9_diary 149 = .ok (.aload_n 0, 1) := by decide +kernel
theorem dX9_diary_150 : decode cX9_diary 150 = .ok (.iload_n 1, 1) := by decide +kernel
theorem dX9_diary_151 : decode cX9_diary 151 = .ok (.iload 6, 2) := by decide +kernel
theorem dX9_diary_153 : decode cX9_diary 153 = .ok (.invokevirtual 134, 3) := by decide +kernel
theorem dX9_diary_156 : decode cX9_diary 156 = .ok (.ifCond .eq 8, 3) := by decide +kernel
theorem dX9_diary_159 : decode cX9_diary 159 = .ok (.ldc 186, 2) := by decide +kernel
theorem dX9_diary_161 : decode cX9_diary 161 = .ok (.goto 5, 3) := by decide +kernel
theorem dX9_diary_164 : decode cX9_diary 164 = .ok (.bipush 46, 2) := by decide +kernel
theorem dX9_diary_166 : decode cX9_diary 166 = .ok (.ireturn, 1) := by decide +kernel
theorem dX9_diary_167 : decode cX9_diary 167 = .ok (.iload 5, 2) := by decide +kernel
theorem dX9_diary_169 : decode cX9_diary 169 = .ok (.iconst 1, 1) := by decide +kernel
theorem dX9_diary_170 : decode cX9_diary 170 = .ok (.if_icmp .ne 11, 3) := by decide +kernel
theorem dX9_diary_173 : decode cX9_diary 173 = .ok (.iload 7, 2) := by decide +kernel
theorem dX9_diary_175 : decode cX9_diary 175 = .ok (.ifCond .ne 6, 3) := by decide +kernel
theorem dX9_diary_178 : decode cX9_diary 178 = .ok (.ldc 187, 2) := by decide +kernel
theorem dX9_diary_180 : decode cX9_diary 180 = .ok (.ireturn, 1) := by decide +kernel
theorem dX9_diary_181 : decode cX9_diary 181 = .ok (.iload 5, 2) := by decide +kernel
theorem dX9_diary_183 : decode cX9_diary 183 = .ok (.iload 7, 2) := by decide +kernel
theorem dX9_diary_185 : decode cX9_diary 185 = .ok (.ifCond .eq 7, 3) := by decide +kernel
theorem dX9_diary_188 : decode cX9_diary 188 = .ok (.iconst 1, 1) := by decide +kernel
theorem dX9_diary_189 : decode cX9_diary 189 = .ok (.goto 4, 3) := by decide +kernel
theorem dX9_diary_192 : decode cX9_diary 192 = .ok (.iconst 2, 1) := by decide +kernel
theorem dX9_diary_193 : decode cX9_diary 193 = .ok (.isub, 1) := by decide +kernel
theorem dX9_diary_194 : decode cX9_diary 194 = .ok (.istore 5, 2) := by decide +kernel
theorem dX9_diary_196 : decode cX9_diary 196 = .ok (.iinc 6 (-1), 3) := by decide +kernel
theorem dX9_diary_199 : decode cX9_diary 199 = .ok (.goto (-133), 3) := by decide +kernel
theorem dX9_diary_202 : decode cX9_diary 202 = .ok (.iconst 0, 1) := by decide +kernel
theorem dX9_diary_203 : decode cX9_diary 203 = .ok (.ireturn, 1) := by decide +kernel
