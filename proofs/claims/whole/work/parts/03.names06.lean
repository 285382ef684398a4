theorem dX5_unlike_69 : decode cX5_unlike 69 = .ok (.iaload, 1) := by decide +kernel
theorem dX5_unlike_70 : decode cX5_unlike 70 = .ok (.istore 4, 2) := by decide +kernel
theorem dX5_unlike_72 : decode cX5_unlike 72 = .ok (.iload_n 3, 1) := by decide +kernel
theorem dX5_unlike_73 : decode cX5_unlike 73 = .ok (.iload 4, 2) := by decide +kernel
theorem dX5_unlike_75 : decode cX5_unlike 75 = .ok (.if_icmp .eq 14, 3) := by decide +kernel
theorem dX5_unlike_78 : decode cX5_unlike 78 = .ok (.iload_n 3, 1) := by decide +kernel
theorem dX5_unlike_79 : decode cX5_unlike 79 = .ok (.iconst 5, 1) := by decide +kernel
theorem dX5_unlike_80 : decode cX5_unlike 80 = .ok (.if_icmp .le 13, 3) := by decide +kernel
theorem dX5_unlike_83 : decode cX5_unlike 83 = .ok (.iload 4, 2) := by decide +kernel
theorem dX5_unlike_85 : decode cX5_unlike 85 = .ok (.iconst 5, 1) := by decide +kernel
theorem dX5_unlike_86 : decode cX5_unlike 86 = .ok (.if_icmp .le 7, 3) := by decide +kernel
theorem dX5_unlike_89 : decode cX5_unlike 89 = .ok (.iconst 0, 1) := by decide +kernel
theorem dX5_unlike_90 : decode cX5_unlike 90 = .ok (.goto 5, 3) := by decide +kernel
theorem dX5_unlike_93 : decode cX5_unlike 93 = .ok (.bipush (-2), 2) := by decide +kernel
theorem dX5_unlike_95 : decode cX5_unlike 95 = .ok (.ireturn, 1) := by decide +kernel
set_option maxRecDepth 20000 in
theorem ggX5_passes_X5_unlike : GoodIn wsX5_passes wsX5_unlike := goodIn_r _ [8, 1, 9, 19, 20, 21, 22, 23, 24, 25, 26, 27, 28, 29] (by decide +kernel) (by decide +kernel)
set_option maxRecDepth 20000 in
theorem gX5_passes_X5_unlike : GoodIn wsX5_passes (wsV RX5 70 RX5 yX5_unlike wsX5_unlike) := goodIn_app (goodIn_of _ (by decide +kernel)) ggX5_passes_X5_unlike
set_option maxRecDepth 20000 in
theorem ggX5_passes_X5_isPictures : GoodIn wsX5_passes wsX5_isPictures := goodIn_r _ [13, 9, 19, 20, 21, 22, 23, 24, 25, 26, 27, 28, 29] (by decide +kernel) (by decide +kernel)
set_option maxRecDepth 20000 in
theorem gX5_passes_X5_isPictures : GoodIn wsX5_passes (wsV RX5 57 RX5 yX5_isPictures wsX5_isPictures) := goodIn_app (goodIn_of _ (by decide +kernel)) ggX5_passes_X5_isPictures
set_option maxRecDepth 20000 in
theorem ggX5_passes_X5_may : GoodIn wsX5_passes wsX5_may := goodIn_r _ [17, 18, 9, 19, 20, 21, 22, 23, 24, 25, 26, 27, 28, 29] (by decide +kernel) (by decide +kernel)
set_option maxRecDepth 20000 in
theorem gX5_passes_X5_may : GoodIn wsX5_passes (wsV RX5 66 RX5 yX5_may wsX5_may) := goodIn_app (goodIn_of _ (by decide +kernel)) ggX5_passes_X5_may
theorem dX5_passes_0 : decode cX5_passes 0 = .ok (.aload_n 0, 1) := by decide +kernel
theorem dX5_passes_1 : decode cX5_passes 1 = .ok (.iload_n 1, 1) := by decide +kernel
theorem dX5_passes_2 : decode cX5_passes 2 = .ok (.iload_n 3, 1) := by decide +kernel
theorem dX5_passes_3 : decode cX5_passes 3 = .ok (.invokevirtual 70, 3) := by decide +kernel
theorem dX5_passes_6 : decode cX5_passes 6 = .ok (.istore 6, 2) := by decide +kernel
theorem dX5_passes_8 : decode cX5_passes 8 = .ok (.iload 6, 2) := by decide +kernel
theorem dX5_passes_10 : decode cX5_passes 10 = .ok (.ifCond .eq 6, 3) := by decide +kernel
theorem dX5_passes_13 : decode cX5_passes 13 = .ok (.iload 6, 2) := by decide +kernel
theorem dX5_passes_15 : decode cX5_passes 15 = .ok (.ireturn, 1) := by decide +kernel
theorem dX5_passes_16 : decode cX5_passes 16 = .ok (.aload_n 0, 1) := by decide +kernel
theorem dX5_passes_17 : decode cX5_passes 17 = .ok (.getfield 7, 3) := by decide +kernel
theorem dX5_passes_20 : decode cX5_passes 20 = .ok (.iload_n 1, 1) := by decide +kernel
theorem dX5_passes_21 : decode cX5_passes 21 = .ok (.iaload, 1) := by decide +kernel
theorem dX5_passes_22 : decode cX5_passes 22 = .ok (.istore 7, 2) := by decide +kernel
theorem dX5_passes_24 : decode cX5_passes 24 = .ok (.aload_n 0, 1) := by decide +kernel
theorem dX5_passes_25 : decode cX5_passes 25 = .ok (.getfield 7, 3) := by decide +kernel
theorem dX5_passes_28 : decode cX5_passes 28 = .ok (.iload_n 3, 1) := by decide +kernel
theorem dX5_passes_29 : decode cX5_passes 29 = .ok (.iaload, 1) := by decide +kernel
theorem dX5_passes_30 : decode cX5_passes 30 = .ok (.istore 8, 2) := by decide +kernel
theorem dX5_passes_32 : decode cX5_passes 32 = .ok (.iload_n 2, 1) := by decide +kernel
theorem dX5_passes_33 : decode cX5_passes 33 = .ok (.ifCond .lt 66, 3) := by decide +kernel
theorem dX5_passes_36 : decode cX5_passes 36 = .ok (.iload 4, 2) := by decide +kernel
theorem dX5_passes_38 : decode cX5_passes 38 = .ok (.ifCond .lt 61, 3) := by decide +kernel
theorem dX5_passes_41 : decode cX5_passes 41 = .ok (.iload 5, 2) := by decide +kernel
theorem dX5_passes_43 : decode cX5_passes 43 = .ok (.ifCond .lt 56, 3) := by decide +kernel
theorem dX5_passes_46 : decode cX5_passes 46 = .ok (.iload 5, 2) := by decide +kernel
theorem dX5_passes_48 : decode cX5_passes 48 = .ok (.aload_n 0, 1) := by decide +kernel
theorem dX5_passes_49 : decode cX5_passes 49 = .ok (.getfield 16, 3) := by decide +kernel
theorem dX5_passes_52 : decode cX5_passes 52 = .ok (.iload 7, 2) := by decide +kernel
theorem dX5_passes_54 : decode cX5_passes 54 = .ok (.iaload, 1) := by decide +kernel
theorem dX5_passes_55 : decode cX5_passes 55 = .ok (.if_icmp .gt 44, 3) := by decide +kernel
theorem dX5_passes_58 : decode cX5_passes 58 = .ok (.iload 5, 2) := by decide +kernel
theorem dX5_passes_60 : decode cX5_passes 60 = .ok (.aload_n 0, 1) := by decide +kernel
theorem dX5_passes_61 : decode cX5_passes 61 = .ok (.getfield 16, 3) := by decide +kernel
theorem dX5_passes_64 : decode cX5_passes 64 = .ok (.iload 8, 2) := by decide +kernel
theorem dX5_passes_66 : decode cX5_passes 66 = .ok (.iaload, 1) := by decide +kernel
theorem dX5_passes_67 : decode cX5_passes 67 = .ok (.if_icmp .gt 32, 3) := by decide +kernel
theorem dX5_passes_70 : decode cX5_passes 70 = .ok (.iload_n 2, 1) := by decide +kernel
theorem dX5_passes_71 : decode cX5_passes 71 = .ok (.aload_n 0, 1) := by decide +kernel
theorem dX5_passes_72 : decode cX5_passes 72 = .ok (.getfield 16, 3) := by decide +kernel
theorem dX5_passes_75 : decode cX5_passes 75 = .ok (.iload 7, 2) := by decide +kernel
theorem dX5_passes_77 : decode cX5_passes 77 = .ok (.iaload, 1) := by decide +kernel
theorem dX5_passes_78 : decode cX5_passes 78 = .ok (.iload 5, 2) := by decide +kernel
theorem dX5_passes_80 : decode cX5_passes 80 = .ok (.isub, 1) := by decide +kernel
theorem dX5_passes_81 : decode cX5_passes 81 = .ok (.if_icmp .gt 18, 3) := by decide +kernel
theorem dX5_passes_84 : decode cX5_passes 84 = .ok (.iload 4, 2) := by decide +kernel
theorem dX5_passes_86 : decode cX5_passes 86 = .ok (.aload_n 0, 1) := by decide +kernel
theorem dX5_passes_87 : decode cX5_passes 87 = .ok (.getfield 16, 3) := by decide +kernel
theorem dX5_passes_90 : decode cX5_passes 90 = .ok (.iload 8, 2) := by decide +kernel
theorem dX5_passes_92 : decode cX5_passes 92 = .ok (.iaload, 1) := by decide +kernel
theorem dX5_passes_93 : decode cX5_passes 93 = .ok (.iload 5, 2) := by decide +kernel
theorem dX5_passes_95 : decode cX5_passes 95 = .ok (.isub, 1) := by decide +kernel
theorem dX5_passes_96 : decode cX5_passes 96 = .ok (.if_icmp .le 6, 3) := by decide +kernel
theorem dX5_passes_99 : decode cX5_passes 99 = .ok (.bipush (-3), 2) := by decide +kernel
theorem dX5_passes_101 : decode cX5_passes 101 = .ok (.ireturn, 1) := by decide +kernel
theorem dX5_passes_102 : decode cX5_passes 102 = .ok (.iload 5, 2) := by decide +kernel
theorem dX5_passes_104 : decode cX5_passes 104 = .ok (.istore 9, 2) := by decide +kernel
theorem dX5_passes_106 : decode cX5_passes 106 = .ok (.iload 5, 2) := by decide +kernel
theorem dX5_passes_108 : decode cX5_passes 108 = .ok (.iconst 1, 1) := by decide +kernel
theorem dX5_passes_109 : decode cX5_passes 109 = .ok (.isub, 1) := by decide +kernel
theorem dX5_passes_110 : decode cX5_passes 110 = .ok (.istore 10, 2) := by decide +kernel
theorem dX5_passes_112 : decode cX5_passes 112 = .ok (.iload 10, 2) := by decide +kernel
theorem dX5_passes_114 : decode cX5_passes 114 = .ok (.ifCond .lt 46, 3) := by decide +kernel
theorem dX5_passes_117 : decode cX5_passes 117 = .ok (.aload_n 0, 1) := by decide +kernel
theorem dX5_passes_118 : decode cX5_passes 118 = .ok (.iload 7, 2) := by decide +kernel
theorem dX5_passes_120 : decode cX5_passes 120 = .ok (.invokevirtual 57, 3) := by decide +kernel
theorem dX5_passes_123 : decode cX5_passes 123 = .ok (.ifCond .eq 31, 3) := by decide +kernel
theorem dX5_passes_126 : decode cX5_passes 126 = .ok (.aload_n 0, 1) := by decide +kernel
theorem dX5_passes_127 : decode cX5_passes 127 = .ok (.iload 8, 2) := by decide +kernel
theorem dX5_passes_129 : decode cX5_passes 129 = .ok (.aload_n 0, 1) := by decide +kernel
theorem dX5_passes_130 : decode cX5_passes 130 = .ok (.getfield 19, 3) := by decide +kernel
theorem dX5_passes_133 : decode cX5_passes 133 = .ok (.bipush 40, 2) := by decide +kernel
theorem dX5_passes_135 : decode cX5_passes 135 = .ok (.iload 7, 2) := by decide +kernel
theorem dX5_passes_137 : decode cX5_passes 137 = .ok (.imul, 1) := by decide +kernel
theorem dX5_passes_138 : decode cX5_passes 138 = .ok (.iload_n 2, 1) := by decide +kernel
theorem dX5_passes_139 : decode cX5_passes 139 = .ok (.iadd, 1) := by decide +kernel
theorem dX5_passes_140 : decode cX5_passes 140 = .ok (.iload 10, 2) := by decide +kernel
theorem dX5_passes_142 : decode cX5_passes 142 = .ok (.iadd, 1) := by decide +kernel
theorem dX5_passes_143 : decode cX5_passes 143 = .ok (.laload, 1) := by decide +kernel
theorem dX5_passes_144 : decode cX5_passes 144 = .ok (.invokevirtual 66, 3) := by decide +kernel
theorem dX5_passes_147 : decode cX5_passes 147 = .ok (.ifCond .ne 7, 3) := by decide +kernel
theorem dX5_passes_150 : decode cX5_passes 150 = .ok (.iload 10, 2) := by decide +kernel
theorem dX5_passes_152 : decode cX5_passes 152 = .ok (.istore 9, 2) := by decide +kernel
theorem dX5_passes_154 : decode cX5_passes 154 = .ok (.iinc 10 (-1), 3) := by decide +kernel
theorem dX5_passes_157 : decode cX5_passes 157 = .ok (.goto (-45), 3) := by decide +kernel
theorem dX5_passes_160 : decode cX5_passes 160 = .ok (.iload 7, 2) := by decide +kernel
theorem dX5_passes_162 : decode cX5_passes 162 = .ok (.iload 8, 2) := by decide +kernel
theorem dX5_passes_164 : decode cX5_passes 164 = .ok (.if_icmp .ne 13, 3) := by decide +kernel
theorem dX5_passes_167 : decode cX5_passes 167 = .ok (.iload 4, 2) := by decide +kernel
theorem dX5_passes_169 : decode cX5_passes 169 = .ok (.iload_n 2, 1) := by decide +kernel
theorem dX5_passes_170 : decode cX5_passes 170 = .ok (.if_icmp .le 7, 3) := by decide +kernel
theorem dX5_passes_173 : decode cX5_passes 173 = .ok (.iconst 1, 1) := by decide +kernel
theorem dX5_passes_174 : decode cX5_passes 174 = .ok (.goto 4, 3) := by decide +kernel
theorem dX5_passes_177 : decode cX5_passes 177 = .ok (.iconst 0, 1) := by decide +kernel
theorem dX5_passes_178 : decode cX5_passes 178 = .ok (.istore 10, 2) := by decide +kernel
theorem dX5_passes_180 : decode cX5_passes 180 = .ok (.iconst 0, 1) := by decide +kernel
theorem dX5_passes_181 : decode cX5_passes 181 = .ok (.istore 11, 2) := by decide +kernel
theorem dX5_passes_183 : decode cX5_passes 183 = .ok (.iload 11, 2) := by decide +kernel
theorem dX5_passes_185 : decode cX5_passes 185 = .ok (.iload 9, 2) := by decide +kernel
theorem dX5_passes_187 : decode cX5_passes 187 = .ok (.if_icmp .ge 59, 3) := by decide +kernel
theorem dX5_passes_190 : decode cX5_passes 190 = .ok (.iload 10, 2) := by decide +kernel
theorem dX5_passes_192 : decode cX5_passes 192 = .ok (.ifCond .eq 13, 3) := by decide +kernel
theorem dX5_passes_195 : decode cX5_passes 195 = .ok (.iload 9, 2) := by decide +kernel
theorem dX5_passes_197 : decode cX5_passes 197 = .ok (.iconst 1, 1) := by decide +kernel
theorem dX5_passes_198 : decode cX5_passes 198 = .ok (.isub, 1) := by decide +kernel
theorem dX5_passes_199 : decode cX5_passes 199 = .ok (.iload 11, 2) := by decide +kernel
theorem dX5_passes_201 : decode cX5_passes 201 = .ok (.isub, 1) := by decide +kernel
theorem dX5_passes_202 : decode cX5_passes 202 = .ok (.goto 5, 3) := by decide +kernel
theorem dX5_passes_205 : decode cX5_passes 205 = .ok (.iload 11, 2) := by decide +kernel
theorem dX5_passes_207 : decode cX5_passes 207 = .ok (.istore 12, 2) := by decide +kernel
theorem dX5_passes_209 : decode cX5_passes 209 = .ok (.aload_n 0, 1) := by decide +kernel
theorem dX5_passes_210 : decode cX5_passes 210 = .ok (.getfield 19, 3) := by decide +kernel
theorem dX5_passes_213 : decode cX5_passes 213 = .ok (.bipush 40, 2) := by decide +kernel
theorem dX5_passes_215 : decode cX5_passes 215 = .ok (.iload 8, 2) := by decide +kernel
theorem dX5_passes_217 : decode cX5_passes 217 = .ok (.imul, 1) := by decide +kernel
theorem dX5_passes_218 : decode cX5_passes 218 = .ok (.iload 4, 2) := by decide +kernel
theorem dX5_passes_220 : decode cX5_passes 220 = .ok (.iadd, 1) := by decide +kernel
theorem dX5_passes_221 : decode cX5_passes 221 = .ok (.iload 12, 2) := by decide +kernel
theorem dX5_passes_223 : decode cX5_passes 223 = .ok (.iadd, 1) := by decide +kernel
theorem dX5_passes_224 : decode cX5_passes 224 = .ok (.aload_n 0, 1) := by decide +kernel
theorem dX5_passes_225 : decode cX5_passes 225 = .ok (.getfield 19, 3) := by decide +kernel
theorem dX5_passes_228 : decode cX5_passes 228 = .ok (.bipush 40, 2) := by decide +kernel
theorem dX5_passes_230 : decode cX5_passes 230 = .ok (.iload 7, 2) := by decide +kernel
theorem dX5_passes_232 : decode cX5_passes 232 = .ok (.imul, 1) := by decide +kernel
theorem dX5_passes_233 : decode cX5_passes 233 = .ok (.iload_n 2, 1) := by decide +kernel
theorem dX5_passes_234 : decode cX5_passes 234 = .ok (.iadd, 1) := by decide +kernel
theorem dX5_passes_235 : decode cX5_passes 235 = .ok (.iload 12, 2) := by decide +kernel
theorem dX5_passes_237 : decode cX5_passes 237 = .ok (.iadd, 1) := by decide +kernel
theorem dX5_passes_238 : decode cX5_passes 238 = .ok (.laload, 1) := by decide +kernel
theorem dX5_passes_239 : decode cX5_passes 239 = .ok (.lastore, 1) := by decide +kernel
theorem dX5_passes_240 : decode cX5_passes 240 = .ok (.iinc 11 1, 3) := by decide +kernel
theorem dX5_passes_243 : decode cX5_passes 243 = .ok (.goto (-60), 3) := by decide +kernel
theorem dX5_passes_246 : decode cX5_passes 246 = .ok (.iload 9, 2) := by decide +kernel
theorem dX5_passes_248 : decode cX5_passes 248 = .ok (.iload 5, 2) := by decide +kernel
theorem dX5_passes_250 : decode cX5_passes 250 = .ok (.if_icmp .ge 11, 3) := by decide +kernel
theorem dX5_passes_253 : decode cX5_passes 253 = .ok (.bipush (-10), 2) := by decide +kernel
theorem dX5_passes_255 : decode cX5_passes 255 = .ok (.iload 9, 2) := by decide +kernel
theorem dX5_passes_257 : decode cX5_passes 257 = .ok (.isub, 1) := by decide +kernel
theorem dX5_passes_258 : decode cX5_passes 258 = .ok (.goto 5, 3) := by decide +kernel
theorem dX5_passes_261 : decode cX5_passes 261 = .ok (.iload 5, 2) := by decide +kernel
theorem dX5_passes_263 : decode cX5_passes 263 = .ok (.ireturn, 1) := by decide +kernel
set_option maxRecDepth 20000 in
theorem ggX5_copy_X5_isScribe : GoodIn wsX5_copy wsX5_isScribe := goodIn_r _ [9] (by decide +kernel) (by decide +kernel)
set_option maxRecDepth 20000 in
theorem gX5_copy_X5_isScribe : GoodIn wsX5_copy (va_wsS RX5 74 yX5_isScribe wsX5_isScribe) := goodIn_app (goodIn_of _ (by decide +kernel)) ggX5_copy_X5_isScribe
set_option maxRecDepth 20000 in
theorem ggX5_copy_X5_isDesk : GoodIn wsX5_copy wsX5_isDesk := goodIn_r _ [12] (by decide +kernel) (by decide +kernel)
set_option maxRecDepth 20000 in
theorem gX5_copy_X5_isDesk : GoodIn wsX5_copy (va_wsS RX5 45 yX5_isDesk wsX5_isDesk) := goodIn_app (goodIn_of _ (by decide +kernel)) ggX5_copy_X5_isDesk
set_option maxRecDepth 20000 in
theorem ggX5_copy_X5_passes : GoodIn wsX5_copy wsX5_passes := goodIn_r _ [16, 17, 18, 19, 20, 21, 22, 8, 23, 24, 25, 26, 27, 28, 29, 30, 31, 32, 33, 34, 35, 36, 37, 38, 39, 40, 41, 42, 43, 44] (by decide +kernel) (by decide +kernel)
set_option maxRecDepth 20000 in
theorem gX5_copy_X5_passes : GoodIn wsX5_copy (wsV RX5 77 RX5 yX5_passes wsX5_passes) := goodIn_app (goodIn_of _ (by decide +kernel)) ggX5_copy_X5_passes
theorem dX5_copy_0 : decode cX5_copy 0 = .ok (.aload_n 0, 1) := by decide +kernel
theorem dX5_copy_1 : decode cX5_copy 1 = .ok (.iconst 0, 1) := by decide +kernel
theorem dX5_copy_2 : decode cX5_copy 2 = .ok (.putfield 41, 3) := by decide +kernel
theorem dX5_copy_5 : decode cX5_copy 5 = .ok (.iload_n 1, 1) := by decide +kernel
theorem dX5_copy_6 : decode cX5_copy 6 = .ok (.invokestatic 74, 3) := by decide +kernel
theorem dX5_copy_9 : decode cX5_copy 9 = .ok (.ifCond .eq 18, 3) := by decide +kernel
theorem dX5_copy_12 : decode cX5_copy 12 = .ok (.iload_n 2, 1) := by decide +kernel
theorem dX5_copy_13 : decode cX5_copy 13 = .ok (.invokestatic 45, 3) := by decide +kernel
theorem dX5_copy_16 : decode cX5_copy 16 = .ok (.ifCond .eq 11, 3) := by decide +kernel
theorem dX5_copy_19 : decode cX5_copy 19 = .ok (.iload 4, 2) := by decide +kernel
theorem dX5_copy_21 : decode cX5_copy 21 = .ok (.invokestatic 45, 3) := by decide +kernel
theorem dX5_copy_24 : decode cX5_copy 24 = .ok (.ifCond .ne 6, 3) := by decide +kernel
theorem dX5_copy_27 : decode cX5_copy 27 = .ok (.bipush (-99), 2) := by decide +kernel
theorem dX5_copy_29 : decode cX5_copy 29 = .ok (.ireturn, 1) := by decide +kernel
theorem dX5_copy_30 : decode cX5_copy 30 = .ok (.aload_n 0, 1) := by decide +kernel
theorem dX5_copy_31 : decode cX5_copy 31 = .ok (.getfield 23, 3) := by decide +kernel
theorem dX5_copy_34 : decode cX5_copy 34 = .ok (.iload_n 1, 1) := by decide +kernel
theorem dX5_copy_35 : decode cX5_copy 35 = .ok (.iaload, 1) := by decide +kernel
theorem dX5_copy_36 : decode cX5_copy 36 = .ok (.iload 6, 2) := by decide +kernel
theorem dX5_copy_38 : decode cX5_copy 38 = .ok (.if_icmp .ge 6, 3) := by decide +kernel
theorem dX5_copy_41 : decode cX5_copy 41 = .ok (.bipush (-50), 2) := by decide +kernel
theorem dX5_copy_43 : decode cX5_copy 43 = .ok (.ireturn, 1) := by decide +kernel
theorem dX5_copy_44 : decode cX5_copy 44 = .ok (.aload_n 0, 1) := by decide +kernel
theorem dX5_copy_45 : decode cX5_copy 45 = .ok (.iload_n 2, 1) := by decide +kernel
theorem dX5_copy_46 : decode cX5_copy 46 = .ok (.iload_n 3, 1) := by decide +kernel
theorem dX5_copy_47 : decode cX5_copy 47 = .ok (.iload 4, 2) := by decide +kernel
theorem dX5_copy_49 : decode cX5_copy 49 = .ok (.iload 5, 2) := by decide +kernel
theorem dX5_copy_51 : decode cX5_copy 51 = .ok (.iload 6, 2) := by decide +kernel
theorem dX5_copy_53 : decode cX5_copy 53 = .ok (.invokevirtual 77, 3) := by decide +kernel
theorem dX5_copy_56 : decode cX5_copy 56 = .ok (.istore 7, 2) := by decide +kernel
theorem dX5_copy_58 : decode cX5_copy 58 = .ok (.iload 7, 2) := by decide +kernel
theorem dX5_copy_60 : decode cX5_copy 60 = .ok (.bipush (-10), 2) := by decide +kernel
theorem dX5_copy_62 : decode cX5_copy 62 = .ok (.if_icmp .gt 11, 3) := by decide +kernel
theorem dX5_copy_65 : decode cX5_copy 65 = .ok (.bipush (-10), 2) := by decide +kernel
theorem dX5_copy_67 : decode cX5_copy 67 = .ok (.iload 7, 2) := by decide +kernel
theorem dX5_copy_69 : decode cX5_copy 69 = .ok (.isub, 1) := by decide +kernel
theorem dX5_copy_70 : decode cX5_copy 70 = .ok (.goto 14, 3) := by decide +kernel
theorem dX5_copy_73 : decode cX5_copy 73 = .ok (.iload 7, 2) := by decide +kernel
theorem dX5_copy_75 : decode cX5_copy 75 = .ok (.ifCond .le 8, 3) := by decide +kernel
theorem dX5_copy_78 : decode cX5_copy 78 = .ok (.iload 7, 2) := by decide +kernel
theorem dX5_copy_80 : decode cX5_copy 80 = .ok (.goto 4, 3) := by decide +kernel
theorem dX5_copy_83 : decode cX5_copy 83 = .ok (.iconst 0, 1) := by decide +kernel
theorem dX5_copy_84 : decode cX5_copy 84 = .ok (.istore 8, 2) := by decide +kernel
theorem dX5_copy_86 : decode cX5_copy 86 = .ok (.aload_n 0, 1) := by decide +kernel
theorem dX5_copy_87 : decode cX5_copy 87 = .ok (.getfield 23, 3) := by decide +kernel
theorem dX5_copy_90 : decode cX5_copy 90 = .ok (.iload_n 1, 1) := by decide +kernel
theorem dX5_copy_91 : decode cX5_copy 91 = .ok (.dup2, 1) := by decide +kernel
theorem dX5_copy_92 : decode cX5_copy 92 = .ok (.iaload, 1) := by decide +kernel
theorem dX5_copy_93 : decode cX5_copy 93 = .ok (.iload 8, 2) := by decide +kernel
theorem dX5_copy_95 : decode cX5_copy 95 = .ok (.isub, 1) := by decide +kernel
theorem dX5_copy_96 : decode cX5_copy 96 = .ok (.iastore, 1) := by decide +kernel
theorem dX5_copy_97 : decode cX5_copy 97 = .ok (.aload_n 0, 1) := by decide +kernel
theorem dX5_copy_98 : decode cX5_copy 98 = .ok (.getfield 26, 3) := by decide +kernel
theorem dX5_copy_101 : decode cX5_copy 101 = .ok (.iload_n 1, 1) := by decide +kernel
theorem dX5_copy_102 : decode cX5_copy 102 = .ok (.dup2, 1) := by decide +kernel
theorem dX5_copy_103 : decode cX5_copy 103 = .ok (.iaload, 1) := by decide +kernel
theorem dX5_copy_104 : decode cX5_copy 104 = .ok (.iload 8, 2) := by decide +kernel
theorem dX5_copy_106 : decode cX5_copy 106 = .ok (.iadd, 1) := by decide +kernel
theorem dX5_copy_107 : decode cX5_copy 107 = .ok (.iastore, 1) := by decide +kernel
theorem dX5_copy_108 : decode cX5_copy 108 = .ok (.aload_n 0, 1) := by decide +kernel
theorem dX5_copy_109 : decode cX5_copy 109 = .ok (.getfield 38, 3) := by decide +kernel
theorem dX5_copy_112 : decode cX5_copy 112 = .ok (.bipush 6, 2) := by decide +kernel
theorem dX5_copy_114 : decode cX5_copy 114 = .ok (.dup2, 1) := by decide +kernel
theorem dX5_copy_115 : decode cX5_copy 115 = .ok (.iaload, 1) := by decide +kernel
theorem dX5_copy_116 : decode cX5_copy 116 = .ok (.iload 8, 2) := by decide +kernel
theorem dX5_copy_118 : decode cX5_copy 118 = .ok (.iadd, 1) := by decide +kernel
theorem dX5_copy_119 : decode cX5_copy 119 = .ok (.iastore, 1) := by decide +kernel
theorem dX5_copy_120 : decode cX5_copy 120 = .ok (.aload_n 0, 1) := by decide +kernel
theorem dX5_copy_121 : decode cX5_copy 121 = .ok (.getfield 38, 3) := by decide +kernel
theorem dX5_copy_124 : decode cX5_copy 124 = .ok (.iconst 0, 1) := by decide +kernel
theorem dX5_copy_125 : decode cX5_copy 125 = .ok (.iaload, 1) := by decide +kernel
theorem dX5_copy_126 : decode cX5_copy 126 = .ok (.bipush 16, 2) := by decide +kernel
theorem dX5_copy_128 : decode cX5_copy 128 = .ok (.irem, 1) := by decide +kernel
theorem dX5_copy_129 : decode cX5_copy 129 = .ok (.istore 9, 2) := by decide +kernel
theorem dX5_copy_131 : decode cX5_copy 131 = .ok (.aload_n 0, 1) := by decide +kernel
theorem dX5_copy_132 : decode cX5_copy 132 = .ok (.getfield 35, 3) := by decide +kernel
theorem dX5_copy_135 : decode cX5_copy 135 = .ok (.iconst 4, 1) := by decide +kernel
theorem dX5_copy_136 : decode cX5_copy 136 = .ok (.iload 9, 2) := by decide +kernel
theorem dX5_copy_138 : decode cX5_copy 138 = .ok (.imul, 1) := by decide +kernel
theorem dX5_copy_139 : decode cX5_copy 139 = .ok (.iload_n 1, 1) := by decide +kernel
theorem dX5_copy_140 : decode cX5_copy 140 = .ok (.iastore, 1) := by decide +kernel
theorem dX5_copy_141 : decode cX5_copy 141 = .ok (.aload_n 0, 1) := by decide +kernel
theorem dX5_copy_142 : decode cX5_copy 142 = .ok (.getfield 35, 3) := by decide +kernel
theorem dX5_copy_145 : decode cX5_copy 145 = .ok (.iconst 4, 1) := by decide +kernel
theorem dX5_copy_146 : decode cX5_copy 146 = .ok (.iload 9, 2) := by decide +kernel
theorem dX5_copy_148 : decode cX5_copy 148 = .ok (.imul, 1) := by decide +kernel
theorem dX5_copy_149 : decode cX5_copy 149 = .ok (.iconst 1, 1) := by decide +kernel
theorem dX5_copy_150 : decode cX5_copy 150 = .ok (.iadd, 1) := by decide +kernel
theorem dX5_copy_151 : decode cX5_copy 151 = .ok (.iload_n 2, 1) := by decide +kernel
theorem dX5_copy_152 : decode cX5_copy 152 = .ok (.iastore, 1) := by decide +kernel
theorem dX5_copy_153 : decode cX5_copy 153 = .ok (.aload_n 0, 1) := by decide +kernel
theorem dX5_copy_154 : decode cX5_copy 154 = .ok (.getfield 35, 3) := by decide +kernel
theorem dX5_copy_157 : decode cX5_copy 157 = .ok (.iconst 4, 1) := by decide +kernel
theorem dX5_copy_158 : decode cX5_copy 158 = .ok (.iload 9, 2) := by decide +kernel
theorem dX5_copy_160 : decode cX5_copy 160 = .ok (.imul, 1) := by decide +kernel
theorem dX5_copy_161 : decode cX5_copy 161 = .ok (.iconst 2, 1) := by decide +kernel
theorem dX5_copy_162 : decode cX5_copy 162 = .ok (.iadd, 1) := by decide +kernel
theorem dX5_copy_163 : decode cX5_copy 163 = .ok (.iload 4, 2) := by decide +kernel
theorem dX5_copy_165 : decode cX5_copy 165 = .ok (.iastore, 1) := by decide +kernel
theorem dX5_copy_166 : decode cX5_copy 166 = .ok (.aload_n 0, 1) := by decide +kernel
theorem dX5_copy_167 : decode cX5_copy 167 = .ok (.getfield 35, 3) := by decide +kernel
theorem dX5_copy_170 : decode cX5_copy 170 = .ok (.iconst 4, 1) := by decide +kernel
theorem dX5_copy_171 : decode cX5_copy 171 = .ok (.iload 9, 2) := by decide +kernel
theorem dX5_copy_173 : decode cX5_copy 173 = .ok (.imul, 1) := by decide +kernel
theorem dX5_copy_174 : decode cX5_copy 174 = .ok (.iconst 3, 1) := by decide +kernel
theorem dX5_copy_175 : decode cX5_copy 175 = .ok (.iadd, 1) := by decide +kernel
theorem dX5_copy_176 : decode cX5_copy 176 = .ok (.iload 7, 2) := by decide +kernel
theorem dX5_copy_178 : decode cX5_copy 178 = .ok (.iastore, 1) := by decide +kernel
theorem dX5_copy_179 : decode cX5_copy 179 = .ok (.aload_n 0, 1) := by decide +kernel
theorem dX5_copy_180 : decode cX5_copy 180 = .ok (.getfield 38, 3) := by decide +kernel
theorem dX5_copy_183 : decode cX5_copy 183 = .ok (.iconst 0, 1) := by decide +kernel
theorem dX5_copy_184 : decode cX5_copy 184 = .ok (.dup2, 1) := by decide +kernel
theorem dX5_copy_185 : decode cX5_copy 185 = .ok (.iaload, 1) := by decide +kernel
theorem dX5_copy_186 : decode cX5_copy 186 = .ok (.iconst 1, 1) := by decide +kernel
theorem dX5_copy_187 : decode cX5_copy 187 = .ok (.iadd, 1) := by decide +kernel
theorem dX5_copy_188 : decode cX5_copy 188 = .ok (.iastore, 1) := by decide +kernel
theorem dX5_copy_189 : decode cX5_copy 189 = .ok (.aload_n 0, 1) := by decide +kernel
theorem dX5_copy_190 : decode cX5_copy 190 = .ok (.getfield 38, 3) := by decide +kernel
theorem dX5_copy_193 : decode cX5_copy 193 = .ok (.iload 7, 2) := by decide +kernel
theorem dX5_copy_195 : decode cX5_copy 195 = .ok (.ifCond .lt 7, 3) := by decide +kernel
theorem dX5_copy_198 : decode cX5_copy 198 = .ok (.iconst 1, 1) := by decide +kernel
theorem dX5_copy_199 : decode cX5_copy 199 = .ok (.goto 18, 3) := by decide +kernel
theorem dX5_copy_202 : decode cX5_copy 202 = .ok (.iload 7, 2) := by decide +kernel
theorem dX5_copy_204 : decode cX5_copy 204 = .ok (.bipush (-10), 2) := by decide +kernel
theorem dX5_copy_206 : decode cX5_copy 206 = .ok (.if_icmp .gt 7, 3) := by decide +kernel
theorem dX5_copy_209 : decode cX5_copy 209 = .ok (.iconst 5, 1) := by decide +kernel
theorem dX5_copy_210 : decode cX5_copy 210 = .ok (.goto 7, 3) := by decide +kernel
theorem dX5_copy_213 : decode cX5_copy 213 = .ok (.iconst 1, 1) := by decide +kernel
theorem dX5_copy_214 : decode cX5_copy 214 = .ok (.iload 7, 2) := by decide +kernel
theorem dX5_copy_216 : decode cX5_copy 216 = .ok (.isub, 1) := by decide +kernel
theorem dX5_copy_217 : decode cX5_copy 217 = .ok (.dup2, 1) := by decide +kernel
theorem dX5_copy_218 : decode cX5_copy 218 = .ok (.iaload, 1) := by decide +kernel
theorem dX5_copy_219 : decode cX5_copy 219 = .ok (.iconst 1, 1) := by decide +kernel
theorem dX5_copy_220 : decode cX5_copy 220 = .ok (.iadd, 1) := by decide +kernel
theorem dX5_copy_221 : decode cX5_copy 221 = .ok (.iastore, 1) := by decide +kernel
theorem dX5_copy_222 : decode cX5_copy 222 = .ok (.iload 7, 2) := by decide +kernel
theorem dX5_copy_224 : decode cX5_copy 224 = .ok (.ireturn, 1) := by decide +kernel
set_option maxRecDepth 20000 in
theorem ggX5_order_X5_isScribe : GoodIn wsX5_order wsX5_isScribe := goodIn_r _ [7] (by decide +kernel) (by decide +kernel)
set_option maxRecDepth 20000 in
theorem gX5_order_X5_isScribe : GoodIn wsX5_order (va_wsS RX5 74 yX5_isScribe wsX5_isScribe) := goodIn_app (goodIn_of _ (by decide +kernel)) ggX5_order_X5_isScribe
set_option maxRecDepth 20000 in
theorem ggX5_order_X5_isDesk : GoodIn wsX5_order wsX5_isDesk := goodIn_r _ [10] (by decide +kernel) (by decide +kernel)
set_option maxRecDepth 20000 in
theorem gX5_order_X5_isDesk : GoodIn wsX5_order (va_wsS RX5 45 yX5_isDesk wsX5_isDesk) := goodIn_app (goodIn_of _ (by decide +kernel)) ggX5_order_X5_isDesk
theorem dX5_order_0 : decode cX5_order 0 = .ok (.aload_n 0, 1) := by decide +kernel
theorem dX5_order_1 : decode cX5_order 1 = .ok (.iconst 0, 1) := by decide +kernel
theorem dX5_order_2 : decode cX5_order 2 = .ok (.putfield 41, 3) := by decide +kernel
theorem dX5_order_5 : decode cX5_order 5 = .ok (.iload_n 1, 1) := by decide +kernel
theorem dX5_order_6 : decode cX5_order 6 = .ok (.invokestatic 74, 3) := by decide +kernel
theorem dX5_order_9 : decode cX5_order 9 = .ok (.ifCond .eq 29, 3) := by decide +kernel
theorem dX5_order_12 : decode cX5_order 12 = .ok (.iload_n 2, 1) := by decide +kernel
theorem dX5_order_13 : decode cX5_order 13 = .ok (.invokestatic 45, 3) := by decide +kernel
theorem dX5_order_16 : decode cX5_order 16 = .ok (.ifCond .eq 22, 3) := by decide +kernel
theorem dX5_order_19 : decode cX5_order 19 = .ok (.iload 4, 2) := by decide +kernel
theorem dX5_order_21 : decode cX5_order 21 = .ok (.invokestatic 45, 3) := by decide +kernel
theorem dX5_order_24 : decode cX5_order 24 = .ok (.ifCond .eq 14, 3) := by decide +kernel
theorem dX5_order_27 : decode cX5_order 27 = .ok (.aload_n 0, 1) := by decide +kernel
theorem dX5_order_28 : decode cX5_order 28 = .ok (.getfield 32, 3) := by decide +kernel
theorem dX5_order_31 : decode cX5_order 31 = .ok (.iload_n 1, 1) := by decide +kernel
theorem dX5_order_32 : decode cX5_order 32 = .ok (.iaload, 1) := by decide +kernel
theorem dX5_order_33 : decode cX5_order 33 = .ok (.bipush 8, 2) := by decide +kernel
theorem dX5_order_35 : decode cX5_order 35 = .ok (.if_icmp .ne 6, 3) := by decide +kernel
theorem dX5_order_38 : decode cX5_order 38 = .ok (.bipush (-99), 2) := by decide +kernel
theorem dX5_order_40 : decode cX5_order 40 = .ok (.ireturn, 1) := by decide +kernel
theorem dX5_order_41 : decode cX5_order 41 = .ok (.iconst 5, 1) := by decide +kernel
theorem dX5_order_42 : decode cX5_order 42 = .ok (.bipush 8, 2) := by decide +kernel
theorem dX5_order_44 : decode cX5_order 44 = .ok (.iload_n 1, 1) := by decide +kernel
theorem dX5_order_45 : decode cX5_order 45 = .ok (.imul, 1) := by decide +kernel
theorem dX5_order_46 : decode cX5_order 46 = .ok (.aload_n 0, 1) := by decide +kernel
theorem dX5_order_47 : decode cX5_order 47 = .ok (.getfield 32, 3) := by decide +kernel
theorem dX5_order_50 : decode cX5_order 50 = .ok (.iload_n 1, 1) := by decide +kernel
theorem dX5_order_51 : decode cX5_order 51 = .ok (.iaload, 1) := by decide +kernel
theorem dX5_order_52 : decode cX5_order 52 = .ok (.iadd, 1) := by decide +kernel
theorem dX5_order_53 : decode cX5_order 53 = .ok (.imul, 1) := by decide +kernel
theorem dX5_order_54 : decode cX5_order 54 = .ok (.istore 7, 2) := by decide +kernel
theorem dX5_order_56 : decode cX5_order 56 = .ok (.aload_n 0, 1) := by decide +kernel
theorem dX5_order_57 : decode cX5_order 57 = .ok (.getfield 29, 3) := by decide +kernel
theorem dX5_order_60 : decode cX5_order 60 = .ok (.iload 7, 2) := by decide +kernel
theorem dX5_order_62 : decode cX5_order 62 = .ok (.iload_n 2, 1) := by decide +kernel
theorem dX5_order_63 : decode cX5_order 63 = .ok (.iastore, 1) := by decide +kernel
theorem dX5_order_64 : decode cX5_order 64 = .ok (.aload_n 0, 1) := by decide +kernel
theorem dX5_order_65 : decode cX5_order 65 = .ok (.getfield 29, 3) := by decide +kernel
theorem dX5_order_68 : decode cX5_order 68 = .ok (.iload 7, 2) := by decide +kernel
theorem dX5_order_70 : decode cX5_order 70 = .ok (.iconst 1, 1) := by decide +kernel
theorem dX5_order_71 : decode cX5_order 71 = .ok (.iadd, 1) := by decide +kernel
theorem dX5_order_72 : decode cX5_order 72 = .ok (.iload_n 3, 1) := by decide +kernel
theorem dX5_order_73 : decode cX5_order 73 = .ok (.iastore, 1) := by decide +kernel
theorem dX5_order_74 : decode cX5_order 74 = .ok (.aload_n 0, 1) := by decide +kernel
theorem dX5_order_75 : decode cX5_order 75 = .ok (.getfield 29, 3) := by decide +kernel
theorem dX5_order_78 : decode cX5_order 78 = .ok (.iload 7, 2) := by decide +kernel
theorem dX5_order_80 : decode cX5_order 80 = .ok (.iconst 2, 1) := by decide +kernel
theorem dX5_order_81 : decode cX5_order 81 = .ok (.iadd, 1) := by decide +kernel
theorem dX5_order_82 : decode cX5_order 82 = .ok (.iload 4, 2) := by decide +kernel
theorem dX5_order_84 : decode cX5_order 84 = .ok (.iastore, 1) := by decide +kernel
theorem dX5_order_85 : decode cX5_order 85 = .ok (.aload_n 0, 1) := by decide +kernel
theorem dX5_order_86 : decode cX5_order 86 = .ok (.getfield 29, 3) := by decide +kernel
theorem dX5_order_89 : decode cX5_order 89 = .ok (.iload 7, 2) := by decide +kernel
theorem dX5_order_91 : decode cX5_order 91 = .ok (.iconst 3, 1) := by decide +kernel
theorem dX5_order_92 : decode cX5_order 92 = .ok (.iadd, 1) := by decide +kernel
theorem dX5_order_93 : decode cX5_order 93 = .ok (.iload 5, 2) := by decide +kernel
theorem dX5_order_95 : decode cX5_order 95 = .ok (.iastore, 1) := by decide +kernel
theorem dX5_order_96 : decode cX5_order 96 = .ok (.aload_n 0, 1) := by decide +kernel
theorem dX5_order_97 : decode cX5_order 97 = .ok (.getfield 29, 3) := by decide +kernel
theorem dX5_order_100 : decode cX5_order 100 = .ok (.iload 7, 2) := by decide +kernel
theorem dX5_order_102 : decode cX5_order 102 = .ok (.iconst 4, 1) := by decide +kernel
theorem dX5_order_103 : decode cX5_order 103 = .ok (.iadd, 1) := by decide +kernel
theorem dX5_order_104 : decode cX5_order 104 = .ok (.iload 6, 2) := by decide +kernel
theorem dX5_order_106 : decode cX5_order 106 = .ok (.iastore, 1) := by decide +kernel
theorem dX5_order_107 : decode cX5_order 107 = .ok (.aload_n 0, 1) := by decide +kernel
theorem dX5_order_108 : decode cX5_order 108 = .ok (.getfield 32, 3) := by decide +kernel
theorem dX5_order_111 : decode cX5_order 111 = .ok (.iload_n 1, 1) := by decide +kernel
theorem dX5_order_112 : decode cX5_order 112 = .ok (.dup2, 1) := by decide +kernel
theorem dX5_order_113 : decode cX5_order 113 = .ok (.iaload, 1) := by decide +kernel
theorem dX5_order_114 : decode cX5_order 114 = .ok (.iconst 1, 1) := by decide +kernel
theorem dX5_order_115 : decode cX5_order 115 = .ok (.iadd, 1) := by decide +kernel
theorem dX5_order_116 : decode cX5_order 116 = .ok (.iastore, 1) := by decide +kernel
theorem dX5_order_117 : decode cX5_order 117 = .ok (.aload_n 0, 1) := by decide +kernel
theorem dX5_order_118 : decode cX5_order 118 = .ok (.getfield 32, 3) := by decide +kernel
theorem dX5_order_121 : decode cX5_order 121 = .ok (.iload_n 1, 1) := by decide +kernel
theorem dX5_order_122 : decode cX5_order 122 = .ok (.iaload, 1) := by decide +kernel
theorem dX5_order_123 : decode cX5_order 123 = .ok (.ireturn, 1) := by decide +kernel
set_option maxRecDepth 20000 in
theorem ggX5_day_X5_copy : GoodIn wsX5_day wsX5_copy := goodIn_r _ [8, 1, 9, 10, 11, 12, 13, 14, 7, 15, 16, 17, 18, 19, 20, 21, 22, 23, 24, 25, 26, 27, 28, 29, 30, 31, 32, 33, 34, 35, 36, 37, 38, 39, 40, 41, 42, 43, 44, 45, 46, 47, 48, 49, 50] (by decide +kernel) (by decide +kernel)
set_option maxRecDepth 20000 in
theorem gX5_day_X5_copy : GoodIn wsX5_day (wsV RX5 81 RX5 yX5_copy wsX5_copy) := goodIn_app (goodIn_of _ (by decide +kernel)) ggX5_day_X5_copy
theorem dX5_day_0 : decode cX5_day 0 = .ok (.aload_n 0, 1) := by decide +kernel
theorem dX5_day_1 : decode cX5_day 1 = .ok (.iconst 0, 1) := by decide +kernel
theorem dX5_day_2 : decode cX5_day 2 = .ok (.putfield 41, 3) := by decide +kernel
theorem dX5_day_5 : decode cX5_day 5 = .ok (.iconst 0, 1) := by decide +kernel
theorem dX5_day_6 : decode cX5_day 6 = .ok (.istore_n 1, 1) := by decide +kernel
theorem dX5_day_7 : decode cX5_day 7 = .ok (.iconst 0, 1) := by decide +kernel
theorem dX5_day_8 : decode cX5_day 8 = .ok (.istore_n 2, 1) := by decide +kernel
theorem dX5_day_9 : decode cX5_day 9 = .ok (.iload_n 2, 1) := by decide +kernel
theorem dX5_day_10 : decode cX5_day 10 = .ok (.iconst 3, 1) := by decide +kernel
theorem dX5_day_11 : decode cX5_day 11 = .ok (.if_icmp .ge 129, 3) := by decide +kernel
theorem dX5_day_14 : decode cX5_day 14 = .ok (.bipush 40, 2) := by decide +kernel
theorem dX5_day_16 : decode cX5_day 16 = .ok (.iload_n 2, 1) := by decide +kernel
theorem dX5_day_17 : decode cX5_day 17 = .ok (.imul, 1) := by decide +kernel
theorem dX5_day_18 : decode cX5_day 18 = .ok (.istore_n 3, 1) := by decide +kernel
theorem dX5_day_19 : decode cX5_day 19 = .ok (.aload_n 0, 1) := by decide +kernel
theorem dX5_day_20 : decode cX5_day 20 = .ok (.getfield 32, 3) := by decide +kernel
theorem dX5_day_23 : decode cX5_day 23 = .ok (.iload_n 2, 1) := by decide +kernel
theorem dX5_day_24 : decode cX5_day 24 = .ok (.iaload, 1) := by decide +kernel
theorem dX5_day_25 : decode cX5_day 25 = .ok (.ifCond .eq 109, 3) := by decide +kernel
theorem dX5_day_28 : decode cX5_day 28 = .ok (.aload_n 0, 1) := by decide +kernel
theorem dX5_day_29 : decode cX5_day 29 = .ok (.iload_n 2, 1) := by decide +kernel
theorem dX5_day_30 : decode cX5_day 30 = .ok (.aload_n 0, 1) := by decide +kernel
theorem dX5_day_31 : decode cX5_day 31 = .ok (.getfield 29, 3) := by decide +kernel
theorem dX5_day_34 : decode cX5_day 34 = .ok (.iload_n 3, 1) := by decide +kernel
theorem dX5_day_35 : decode cX5_day 35 = .ok (.iaload, 1) := by decide +kernel
theorem dX5_day_36 : decode cX5_day 36 = .ok (.aload_n 0, 1) := by decide +kernel
theorem dX5_day_37 : decode cX5_day 37 = .ok (.getfield 29, 3) := by decide +kernel
theorem dX5_day_40 : decode cX5_day 40 = .ok (.iload_n 3, 1) := by decide +kernel
theorem dX5_day_41 : decode cX5_day 41 = .ok (.iconst 1, 1) := by decide +kernel
theorem dX5_day_42 : decode cX5_day 42 = .ok (.iadd, 1) := by decide +kernel
theorem dX5_day_43 : decode cX5_day 43 = .ok (.iaload, 1) := by decide +kernel
theorem dX5_day_44 : decode cX5_day 44 = .ok (.aload_n 0, 1) := by decide +kernel
