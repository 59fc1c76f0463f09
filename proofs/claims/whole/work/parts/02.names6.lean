theorem dX8_winBehind_0 : decode cX8_winBehind 0 = .ok (.iload_n 1, 1) := by decide +kernel
theorem dX8_winBehind_1 : decode cX8_winBehind 1 = .ok (.iconst 2, 1) := by decide +kernel
theorem dX8_winBehind_2 : decode cX8_winBehind 2 = .ok (.irem, 1) := by decide +kernel
theorem dX8_winBehind_3 : decode cX8_winBehind 3 = .ok (.ifCond .ne 13, 3) := by decide +kernel
theorem dX8_winBehind_6 : decode cX8_winBehind 6 = .ok (.iload 4, 2) := by decide +kernel
theorem dX8_winBehind_8 : decode cX8_winBehind 8 = .ok (.iload 5, 2) := by decide +kernel
theorem dX8_winBehind_10 : decode cX8_winBehind 10 = .ok (.invokestatic 92, 3) := by decide +kernel
theorem dX8_winBehind_13 : decode cX8_winBehind 13 = .ok (.goto 11, 3) := by decide +kernel
theorem dX8_winBehind_16 : decode cX8_winBehind 16 = .ok (.iload 4, 2) := by decide +kernel
theorem dX8_winBehind_18 : decode cX8_winBehind 18 = .ok (.iload 5, 2) := by decide +kernel
theorem dX8_winBehind_20 : decode cX8_winBehind 20 = .ok (.invokestatic 92, 3) := by decide +kernel
theorem dX8_winBehind_23 : decode cX8_winBehind 23 = .ok (.ineg, 1) := by decide +kernel
theorem dX8_winBehind_24 : decode cX8_winBehind 24 = .ok (.istore 6, 2) := by decide +kernel
theorem dX8_winBehind_26 : decode cX8_winBehind 26 = .ok (.iload_n 2, 1) := by decide +kernel
theorem dX8_winBehind_27 : decode cX8_winBehind 27 = .ok (.iload 6, 2) := by decide +kernel
theorem dX8_winBehind_29 : decode cX8_winBehind 29 = .ok (.iadd, 1) := by decide +kernel
theorem dX8_winBehind_30 : decode cX8_winBehind 30 = .ok (.bipush 9, 2) := by decide +kernel
theorem dX8_winBehind_32 : decode cX8_winBehind 32 = .ok (.if_icmp .le 8, 3) := by decide +kernel
theorem dX8_winBehind_35 : decode cX8_winBehind 35 = .ok (.bipush 9, 2) := by decide +kernel
theorem dX8_winBehind_37 : decode cX8_winBehind 37 = .ok (.goto 21, 3) := by decide +kernel
theorem dX8_winBehind_40 : decode cX8_winBehind 40 = .ok (.iload_n 2, 1) := by decide +kernel
theorem dX8_winBehind_41 : decode cX8_winBehind 41 = .ok (.iload 6, 2) := by decide +kernel
theorem dX8_winBehind_43 : decode cX8_winBehind 43 = .ok (.iadd, 1) := by decide +kernel
theorem dX8_winBehind_44 : decode cX8_winBehind 44 = .ok (.bipush (-9), 2) := by decide +kernel
theorem dX8_winBehind_46 : decode cX8_winBehind 46 = .ok (.if_icmp .ge 8, 3) := by decide +kernel
theorem dX8_winBehind_49 : decode cX8_winBehind 49 = .ok (.bipush (-9), 2) := by decide +kernel
theorem dX8_winBehind_51 : decode cX8_winBehind 51 = .ok (.goto 7, 3) := by decide +kernel
theorem dX8_winBehind_54 : decode cX8_winBehind 54 = .ok (.iload_n 2, 1) := by decide +kernel
theorem dX8_winBehind_55 : decode cX8_winBehind 55 = .ok (.iload 6, 2) := by decide +kernel
theorem dX8_winBehind_57 : decode cX8_winBehind 57 = .ok (.iadd, 1) := by decide +kernel
theorem dX8_winBehind_58 : decode cX8_winBehind 58 = .ok (.istore 7, 2) := by decide +kernel
theorem dX8_winBehind_60 : decode cX8_winBehind 60 = .ok (.aload_n 0, 1) := by decide +kernel
theorem dX8_winBehind_61 : decode cX8_winBehind 61 = .ok (.getfield 40, 3) := by decide +kernel
theorem dX8_winBehind_64 : decode cX8_winBehind 64 = .ok (.iload_n 1, 1) := by decide +kernel
theorem dX8_winBehind_65 : decode cX8_winBehind 65 = .ok (.iload 7, 2) := by decide +kernel
theorem dX8_winBehind_67 : decode cX8_winBehind 67 = .ok (.iload_n 3, 1) := by decide +kernel
theorem dX8_winBehind_68 : decode cX8_winBehind 68 = .ok (.iconst 1, 1) := by decide +kernel
theorem dX8_winBehind_69 : decode cX8_winBehind 69 = .ok (.isub, 1) := by decide +kernel
theorem dX8_winBehind_70 : decode cX8_winBehind 70 = .ok (.iload 4, 2) := by decide +kernel
theorem dX8_winBehind_72 : decode cX8_winBehind 72 = .ok (.iload 5, 2) := by decide +kernel
theorem dX8_winBehind_74 : decode cX8_winBehind 74 = .ok (.invokestatic 88, 3) := by decide +kernel
theorem dX8_winBehind_77 : decode cX8_winBehind 77 = .ok (.invokestatic 145, 3) := by decide +kernel
theorem dX8_winBehind_80 : decode cX8_winBehind 80 = .ok (.iaload, 1) := by decide +kernel
theorem dX8_winBehind_81 : decode cX8_winBehind 81 = .ok (.ireturn, 1) := by decide +kernel
set_option maxRecDepth 20000 in
theorem ggX8_play_X8_placeOf : GoodIn wsX8_play wsX8_placeOf := goodIn_r _ [12] (by decide +kernel) (by decide +kernel)
set_option maxRecDepth 20000 in
theorem gX8_play_X8_placeOf : GoodIn wsX8_play (va_wsS RX8 145 yX8_placeOf wsX8_placeOf) := goodIn_app (goodIn_of _ (by decide +kernel)) ggX8_play_X8_placeOf
set_option maxRecDepth 20000 in
theorem ggX8_play_X8_winBehind : GoodIn wsX8_play wsX8_winBehind := goodIn_r _ [16, 3, 17, 18, 11, 19, 20, 21, 22, 23, 24, 25, 9, 10, 12, 33, 34, 35, 36, 37, 38, 39, 40, 41, 42, 43, 44, 45, 46, 47, 48, 49, 50, 51, 52, 53, 54] (by decide +kernel) (by decide +kernel)
set_option maxRecDepth 20000 in
theorem gX8_play_X8_winBehind : GoodIn wsX8_play (wsV RX8 150 RX8 yX8_winBehind wsX8_winBehind) := goodIn_app (goodIn_of _ (by decide +kernel)) ggX8_play_X8_winBehind
set_option maxRecDepth 20000 in
theorem ggX8_play_X8_take : GoodIn wsX8_play wsX8_take := goodIn_r _ [29, 3, 1, 33, 34, 35, 36, 37, 38, 39, 40, 41, 42, 43, 44, 45, 46, 47, 48, 49, 50, 51, 52, 53, 54] (by decide +kernel) (by decide +kernel)
set_option maxRecDepth 20000 in
theorem gX8_play_X8_take : GoodIn wsX8_play (wsV RX8 154 RX8 yX8_take wsX8_take) := goodIn_app (goodIn_of _ (by decide +kernel)) ggX8_play_X8_take
set_option maxRecDepth 20000 in
theorem ggX8_play_X8_mayBe : GoodIn wsX8_play wsX8_mayBe := goodIn_r _ [32] (by decide +kernel) (by decide +kernel)
set_option maxRecDepth 20000 in
theorem gX8_play_X8_mayBe : GoodIn wsX8_play (va_wsS RX8 84 yX8_mayBe wsX8_mayBe) := goodIn_app (goodIn_of _ (by decide +kernel)) ggX8_play_X8_mayBe
theorem dX8_play_0 : decode cX8_play 0 = .ok (.iload_n 1, 1) := by decide +kernel
theorem dX8_play_1 : decode cX8_play 1 = .ok (.iload_n 2, 1) := by decide +kernel
theorem dX8_play_2 : decode cX8_play 2 = .ok (.iload_n 3, 1) := by decide +kernel
theorem dX8_play_3 : decode cX8_play 3 = .ok (.iload 4, 2) := by decide +kernel
theorem dX8_play_5 : decode cX8_play 5 = .ok (.invokestatic 145, 3) := by decide +kernel
theorem dX8_play_8 : decode cX8_play 8 = .ok (.istore 5, 2) := by decide +kernel
theorem dX8_play_10 : decode cX8_play 10 = .ok (.aload_n 0, 1) := by decide +kernel
theorem dX8_play_11 : decode cX8_play 11 = .ok (.getfield 43, 3) := by decide +kernel
theorem dX8_play_14 : decode cX8_play 14 = .ok (.iload 5, 2) := by decide +kernel
theorem dX8_play_16 : decode cX8_play 16 = .ok (.ldc 35, 2) := by decide +kernel
theorem dX8_play_18 : decode cX8_play 18 = .ok (.iastore, 1) := by decide +kernel
theorem dX8_play_19 : decode cX8_play 19 = .ok (.iload_n 1, 1) := by decide +kernel
theorem dX8_play_20 : decode cX8_play 20 = .ok (.ifCond .ne 32, 3) := by decide +kernel
theorem dX8_play_23 : decode cX8_play 23 = .ok (.aload_n 0, 1) := by decide +kernel
theorem dX8_play_24 : decode cX8_play 24 = .ok (.getfield 40, 3) := by decide +kernel
theorem dX8_play_27 : decode cX8_play 27 = .ok (.iload 5, 2) := by decide +kernel
theorem dX8_play_29 : decode cX8_play 29 = .ok (.iload_n 2, 1) := by decide +kernel
theorem dX8_play_30 : decode cX8_play 30 = .ok (.ifCond .le 8, 3) := by decide +kernel
theorem dX8_play_33 : decode cX8_play 33 = .ok (.ldc 132, 2) := by decide +kernel
theorem dX8_play_35 : decode cX8_play 35 = .ok (.goto 13, 3) := by decide +kernel
theorem dX8_play_38 : decode cX8_play 38 = .ok (.iload_n 2, 1) := by decide +kernel
theorem dX8_play_39 : decode cX8_play 39 = .ok (.ifCond .ne 8, 3) := by decide +kernel
theorem dX8_play_42 : decode cX8_play 42 = .ok (.ldc 149, 2) := by decide +kernel
theorem dX8_play_44 : decode cX8_play 44 = .ok (.goto 4, 3) := by decide +kernel
theorem dX8_play_47 : decode cX8_play 47 = .ok (.iconst 0, 1) := by decide +kernel
theorem dX8_play_48 : decode cX8_play 48 = .ok (.iastore, 1) := by decide +kernel
theorem dX8_play_49 : decode cX8_play 49 = .ok (.goto 223, 3) := by decide +kernel
theorem dX8_play_52 : decode cX8_play 52 = .ok (.iload 4, 2) := by decide +kernel
theorem dX8_play_54 : decode cX8_play 54 = .ok (.bipush 24, 2) := by decide +kernel
theorem dX8_play_56 : decode cX8_play 56 = .ok (.if_icmp .eq 7, 3) := by decide +kernel
theorem dX8_play_59 : decode cX8_play 59 = .ok (.iload_n 3, 1) := by decide +kernel
theorem dX8_play_60 : decode cX8_play 60 = .ok (.ifCond .ne 28, 3) := by decide +kernel
theorem dX8_play_63 : decode cX8_play 63 = .ok (.aload_n 0, 1) := by decide +kernel
theorem dX8_play_64 : decode cX8_play 64 = .ok (.getfield 40, 3) := by decide +kernel
theorem dX8_play_67 : decode cX8_play 67 = .ok (.iload 5, 2) := by decide +kernel
theorem dX8_play_69 : decode cX8_play 69 = .ok (.aload_n 0, 1) := by decide +kernel
theorem dX8_play_70 : decode cX8_play 70 = .ok (.getfield 40, 3) := by decide +kernel
theorem dX8_play_73 : decode cX8_play 73 = .ok (.iload_n 1, 1) := by decide +kernel
theorem dX8_play_74 : decode cX8_play 74 = .ok (.iconst 1, 1) := by decide +kernel
theorem dX8_play_75 : decode cX8_play 75 = .ok (.isub, 1) := by decide +kernel
theorem dX8_play_76 : decode cX8_play 76 = .ok (.iload_n 2, 1) := by decide +kernel
theorem dX8_play_77 : decode cX8_play 77 = .ok (.bipush 12, 2) := by decide +kernel
theorem dX8_play_79 : decode cX8_play 79 = .ok (.iconst 0, 1) := by decide +kernel
theorem dX8_play_80 : decode cX8_play 80 = .ok (.invokestatic 145, 3) := by decide +kernel
theorem dX8_play_83 : decode cX8_play 83 = .ok (.iaload, 1) := by decide +kernel
theorem dX8_play_84 : decode cX8_play 84 = .ok (.iastore, 1) := by decide +kernel
theorem dX8_play_85 : decode cX8_play 85 = .ok (.goto 187, 3) := by decide +kernel
theorem dX8_play_88 : decode cX8_play 88 = .ok (.aload_n 0, 1) := by decide +kernel
theorem dX8_play_89 : decode cX8_play 89 = .ok (.getfield 36, 3) := by decide +kernel
theorem dX8_play_92 : decode cX8_play 92 = .ok (.iload_n 1, 1) := by decide +kernel
theorem dX8_play_93 : decode cX8_play 93 = .ok (.iconst 2, 1) := by decide +kernel
theorem dX8_play_94 : decode cX8_play 94 = .ok (.irem, 1) := by decide +kernel
theorem dX8_play_95 : decode cX8_play 95 = .ok (.iaload, 1) := by decide +kernel
theorem dX8_play_96 : decode cX8_play 96 = .ok (.istore 6, 2) := by decide +kernel
theorem dX8_play_98 : decode cX8_play 98 = .ok (.lconst 0, 1) := by decide +kernel
theorem dX8_play_99 : decode cX8_play 99 = .ok (.lstore 7, 2) := by decide +kernel
theorem dX8_play_101 : decode cX8_play 101 = .ok (.iconst 0, 1) := by decide +kernel
theorem dX8_play_102 : decode cX8_play 102 = .ok (.istore 9, 2) := by decide +kernel
theorem dX8_play_104 : decode cX8_play 104 = .ok (.iload 9, 2) := by decide +kernel
theorem dX8_play_106 : decode cX8_play 106 = .ok (.bipush 6, 2) := by decide +kernel
theorem dX8_play_108 : decode cX8_play 108 = .ok (.if_icmp .ge 41, 3) := by decide +kernel
theorem dX8_play_111 : decode cX8_play 111 = .ok (.lload 7, 2) := by decide +kernel
theorem dX8_play_113 : decode cX8_play 113 = .ok (.aload_n 0, 1) := by decide +kernel
theorem dX8_play_114 : decode cX8_play 114 = .ok (.getfield 19, 3) := by decide +kernel
theorem dX8_play_117 : decode cX8_play 117 = .ok (.bipush 7, 2) := by decide +kernel
theorem dX8_play_119 : decode cX8_play 119 = .ok (.iload 6, 2) := by decide +kernel
theorem dX8_play_121 : decode cX8_play 121 = .ok (.imul, 1) := by decide +kernel
theorem dX8_play_122 : decode cX8_play 122 = .ok (.iload 9, 2) := by decide +kernel
theorem dX8_play_124 : decode cX8_play 124 = .ok (.iadd, 1) := by decide +kernel
theorem dX8_play_125 : decode cX8_play 125 = .ok (.iaload, 1) := by decide +kernel
theorem dX8_play_126 : decode cX8_play 126 = .ok (.i2l, 1) := by decide +kernel
theorem dX8_play_127 : decode cX8_play 127 = .ok (.aload_n 0, 1) := by decide +kernel
theorem dX8_play_128 : decode cX8_play 128 = .ok (.iload_n 1, 1) := by decide +kernel
theorem dX8_play_129 : decode cX8_play 129 = .ok (.iload_n 2, 1) := by decide +kernel
theorem dX8_play_130 : decode cX8_play 130 = .ok (.iload_n 3, 1) := by decide +kernel
theorem dX8_play_131 : decode cX8_play 131 = .ok (.iload 4, 2) := by decide +kernel
theorem dX8_play_133 : decode cX8_play 133 = .ok (.iload 9, 2) := by decide +kernel
theorem dX8_play_135 : decode cX8_play 135 = .ok (.invokevirtual 150, 3) := by decide +kernel
theorem dX8_play_138 : decode cX8_play 138 = .ok (.i2l, 1) := by decide +kernel
theorem dX8_play_139 : decode cX8_play 139 = .ok (.lmul, 1) := by decide +kernel
theorem dX8_play_140 : decode cX8_play 140 = .ok (.ladd, 1) := by decide +kernel
theorem dX8_play_141 : decode cX8_play 141 = .ok (.lstore 7, 2) := by decide +kernel
theorem dX8_play_143 : decode cX8_play 143 = .ok (.iinc 9 1, 3) := by decide +kernel
theorem dX8_play_146 : decode cX8_play 146 = .ok (.goto (-42), 3) := by decide +kernel
theorem dX8_play_149 : decode cX8_play 149 = .ok (.aload_n 0, 1) := by decide +kernel
theorem dX8_play_150 : decode cX8_play 150 = .ok (.getfield 40, 3) := by decide +kernel
theorem dX8_play_153 : decode cX8_play 153 = .ok (.iload 5, 2) := by decide +kernel
theorem dX8_play_155 : decode cX8_play 155 = .ok (.lload 7, 2) := by decide +kernel
theorem dX8_play_157 : decode cX8_play 157 = .ok (.ldc2_w 98, 3) := by decide +kernel
theorem dX8_play_160 : decode cX8_play 160 = .ok (.ldiv, 1) := by decide +kernel
theorem dX8_play_161 : decode cX8_play 161 = .ok (.l2i, 1) := by decide +kernel
theorem dX8_play_162 : decode cX8_play 162 = .ok (.iastore, 1) := by decide +kernel
theorem dX8_play_163 : decode cX8_play 163 = .ok (.aload_n 0, 1) := by decide +kernel
theorem dX8_play_164 : decode cX8_play 164 = .ok (.getfield 43, 3) := by decide +kernel
theorem dX8_play_167 : decode cX8_play 167 = .ok (.iload 5, 2) := by decide +kernel
theorem dX8_play_169 : decode cX8_play 169 = .ok (.iconst 0, 1) := by decide +kernel
theorem dX8_play_170 : decode cX8_play 170 = .ok (.iastore, 1) := by decide +kernel
theorem dX8_play_171 : decode cX8_play 171 = .ok (.iload 4, 2) := by decide +kernel
theorem dX8_play_173 : decode cX8_play 173 = .ok (.bipush 7, 2) := by decide +kernel
theorem dX8_play_175 : decode cX8_play 175 = .ok (.iand, 1) := by decide +kernel
theorem dX8_play_176 : decode cX8_play 176 = .ok (.ifCond .eq 22, 3) := by decide +kernel
theorem dX8_play_179 : decode cX8_play 179 = .ok (.aload_n 0, 1) := by decide +kernel
theorem dX8_play_180 : decode cX8_play 180 = .ok (.iload 5, 2) := by decide +kernel
theorem dX8_play_182 : decode cX8_play 182 = .ok (.iload_n 1, 1) := by decide +kernel
theorem dX8_play_183 : decode cX8_play 183 = .ok (.iconst 1, 1) := by decide +kernel
theorem dX8_play_184 : decode cX8_play 184 = .ok (.aload_n 0, 1) := by decide +kernel
theorem dX8_play_185 : decode cX8_play 185 = .ok (.iload_n 1, 1) := by decide +kernel
theorem dX8_play_186 : decode cX8_play 186 = .ok (.iload_n 2, 1) := by decide +kernel
theorem dX8_play_187 : decode cX8_play 187 = .ok (.iload_n 3, 1) := by decide +kernel
theorem dX8_play_188 : decode cX8_play 188 = .ok (.iload 4, 2) := by decide +kernel
theorem dX8_play_190 : decode cX8_play 190 = .ok (.bipush 6, 2) := by decide +kernel
theorem dX8_play_192 : decode cX8_play 192 = .ok (.invokevirtual 150, 3) := by decide +kernel
theorem dX8_play_195 : decode cX8_play 195 = .ok (.invokevirtual 154, 3) := by decide +kernel
theorem dX8_play_198 : decode cX8_play 198 = .ok (.iload 4, 2) := by decide +kernel
theorem dX8_play_200 : decode cX8_play 200 = .ok (.bipush 7, 2) := by decide +kernel
theorem dX8_play_202 : decode cX8_play 202 = .ok (.invokestatic 84, 3) := by decide +kernel
theorem dX8_play_205 : decode cX8_play 205 = .ok (.ifCond .eq 67, 3) := by decide +kernel
theorem dX8_play_208 : decode cX8_play 208 = .ok (.aload_n 0, 1) := by decide +kernel
theorem dX8_play_209 : decode cX8_play 209 = .ok (.getfield 19, 3) := by decide +kernel
theorem dX8_play_212 : decode cX8_play 212 = .ok (.bipush 7, 2) := by decide +kernel
theorem dX8_play_214 : decode cX8_play 214 = .ok (.iload 6, 2) := by decide +kernel
theorem dX8_play_216 : decode cX8_play 216 = .ok (.imul, 1) := by decide +kernel
theorem dX8_play_217 : decode cX8_play 217 = .ok (.bipush 6, 2) := by decide +kernel
theorem dX8_play_219 : decode cX8_play 219 = .ok (.iadd, 1) := by decide +kernel
theorem dX8_play_220 : decode cX8_play 220 = .ok (.iaload, 1) := by decide +kernel
theorem dX8_play_221 : decode cX8_play 221 = .ok (.i2l, 1) := by decide +kernel
theorem dX8_play_222 : decode cX8_play 222 = .ok (.lstore 9, 2) := by decide +kernel
theorem dX8_play_224 : decode cX8_play 224 = .ok (.aload_n 0, 1) := by decide +kernel
theorem dX8_play_225 : decode cX8_play 225 = .ok (.iload 5, 2) := by decide +kernel
theorem dX8_play_227 : decode cX8_play 227 = .ok (.iload_n 1, 1) := by decide +kernel
theorem dX8_play_228 : decode cX8_play 228 = .ok (.iconst 2, 1) := by decide +kernel
theorem dX8_play_229 : decode cX8_play 229 = .ok (.lload 9, 2) := by decide +kernel
theorem dX8_play_231 : decode cX8_play 231 = .ok (.aload_n 0, 1) := by decide +kernel
theorem dX8_play_232 : decode cX8_play 232 = .ok (.iload_n 1, 1) := by decide +kernel
theorem dX8_play_233 : decode cX8_play 233 = .ok (.iload_n 2, 1) := by decide +kernel
theorem dX8_play_234 : decode cX8_play 234 = .ok (.iload_n 3, 1) := by decide +kernel
theorem dX8_play_235 : decode cX8_play 235 = .ok (.iload 4, 2) := by decide +kernel
theorem dX8_play_237 : decode cX8_play 237 = .ok (.bipush 7, 2) := by decide +kernel
theorem dX8_play_239 : decode cX8_play 239 = .ok (.invokevirtual 150, 3) := by decide +kernel
theorem dX8_play_242 : decode cX8_play 242 = .ok (.i2l, 1) := by decide +kernel
theorem dX8_play_243 : decode cX8_play 243 = .ok (.lmul, 1) := by decide +kernel
theorem dX8_play_244 : decode cX8_play 244 = .ok (.ldc2_w 98, 3) := by decide +kernel
theorem dX8_play_247 : decode cX8_play 247 = .ok (.lload 9, 2) := by decide +kernel
theorem dX8_play_249 : decode cX8_play 249 = .ok (.lsub, 1) := by decide +kernel
theorem dX8_play_250 : decode cX8_play 250 = .ok (.aload_n 0, 1) := by decide +kernel
theorem dX8_play_251 : decode cX8_play 251 = .ok (.iload_n 1, 1) := by decide +kernel
theorem dX8_play_252 : decode cX8_play 252 = .ok (.iload_n 2, 1) := by decide +kernel
theorem dX8_play_253 : decode cX8_play 253 = .ok (.iload_n 3, 1) := by decide +kernel
theorem dX8_play_254 : decode cX8_play 254 = .ok (.iload 4, 2) := by decide +kernel
theorem dX8_play_256 : decode cX8_play 256 = .ok (.bipush 8, 2) := by decide +kernel
theorem dX8_play_258 : decode cX8_play 258 = .ok (.invokevirtual 150, 3) := by decide +kernel
theorem dX8_play_261 : decode cX8_play 261 = .ok (.i2l, 1) := by decide +kernel
theorem dX8_play_262 : decode cX8_play 262 = .ok (.lmul, 1) := by decide +kernel
theorem dX8_play_263 : decode cX8_play 263 = .ok (.ladd, 1) := by decide +kernel
theorem dX8_play_264 : decode cX8_play 264 = .ok (.ldc2_w 98, 3) := by decide +kernel
theorem dX8_play_267 : decode cX8_play 267 = .ok (.ldiv, 1) := by decide +kernel
theorem dX8_play_268 : decode cX8_play 268 = .ok (.l2i, 1) := by decide +kernel
theorem dX8_play_269 : decode cX8_play 269 = .ok (.invokevirtual 154, 3) := by decide +kernel
theorem dX8_play_272 : decode cX8_play 272 = .ok (.return_, 1) := by decide +kernel
theorem dX8_take_0 : decode cX8_take 0 = .ok (.iload_n 2, 1) := by decide +kernel
theorem dX8_take_1 : decode cX8_take 1 = .ok (.iconst 2, 1) := by decide +kernel
theorem dX8_take_2 : decode cX8_take 2 = .ok (.irem, 1) := by decide +kernel
theorem dX8_take_3 : decode cX8_take 3 = .ok (.ifCond .ne 17, 3) := by decide +kernel
theorem dX8_take_6 : decode cX8_take 6 = .ok (.iload 4, 2) := by decide +kernel
theorem dX8_take_8 : decode cX8_take 8 = .ok (.aload_n 0, 1) := by decide +kernel
theorem dX8_take_9 : decode cX8_take 9 = .ok (.getfield 40, 3) := by decide +kernel
theorem dX8_take_12 : decode cX8_take 12 = .ok (.iload_n 1, 1) := by decide +kernel
theorem dX8_take_13 : decode cX8_take 13 = .ok (.iaload, 1) := by decide +kernel
theorem dX8_take_14 : decode cX8_take 14 = .ok (.if_icmp .le 32, 3) := by decide +kernel
theorem dX8_take_17 : decode cX8_take 17 = .ok (.goto 14, 3) := by decide +kernel
theorem dX8_take_20 : decode cX8_take 20 = .ok (.iload 4, 2) := by decide +kernel
theorem dX8_take_22 : decode cX8_take 22 = .ok (.aload_n 0, 1) := by decide +kernel
theorem dX8_take_23 : decode cX8_take 23 = .ok (.getfield 40, 3) := by decide +kernel
theorem dX8_take_26 : decode cX8_take 26 = .ok (.iload_n 1, 1) := by decide +kernel
theorem dX8_take_27 : decode cX8_take 27 = .ok (.iaload, 1) := by decide +kernel
theorem dX8_take_28 : decode cX8_take 28 = .ok (.if_icmp .ge 18, 3) := by decide +kernel
theorem dX8_take_31 : decode cX8_take 31 = .ok (.aload_n 0, 1) := by decide +kernel
theorem dX8_take_32 : decode cX8_take 32 = .ok (.getfield 40, 3) := by decide +kernel
theorem dX8_take_35 : decode cX8_take 35 = .ok (.iload_n 1, 1) := by decide +kernel
theorem dX8_take_36 : decode cX8_take 36 = .ok (.iload 4, 2) := by decide +kernel
theorem dX8_take_38 : decode cX8_take 38 = .ok (.iastore, 1) := by decide +kernel
theorem dX8_take_39 : decode cX8_take 39 = .ok (.aload_n 0, 1) := by decide +kernel
theorem dX8_take_40 : decode cX8_take 40 = .ok (.getfield 43, 3) := by decide +kernel
theorem dX8_take_43 : decode cX8_take 43 = .ok (.iload_n 1, 1) := by decide +kernel
theorem dX8_take_44 : decode cX8_take 44 = .ok (.iload_n 3, 1) := by decide +kernel
theorem dX8_take_45 : decode cX8_take 45 = .ok (.iastore, 1) := by decide +kernel
theorem dX8_take_46 : decode cX8_take 46 = .ok (.return_, 1) := by decide +kernel
set_option maxRecDepth 20000 in
theorem ggX8_game_X8_in : GoodIn wsX8_game wsX8_in := goodIn_r _ [17] (by decide +kernel) (by decide +kernel)
set_option maxRecDepth 20000 in
theorem gX8_game_X8_in : GoodIn wsX8_game (va_wsS RX8 62 yX8_in wsX8_in) := goodIn_app (goodIn_of _ (by decide +kernel)) ggX8_game_X8_in
set_option maxRecDepth 20000 in
theorem ggX8_game_X8_play : GoodIn wsX8_game wsX8_play := goodIn_r _ [21, 13, 10, 12, 22, 23, 9, 24, 25, 26, 27, 16, 28, 29, 30, 31, 32, 33, 34, 35, 36, 37, 38, 39, 40, 41, 42, 43, 44, 45, 46, 47, 48, 49, 50, 51, 52, 53, 54, 55, 56, 57, 58, 59, 60, 61, 62, 63, 64, 65, 66, 67, 68, 69, 70] (by decide +kernel) (by decide +kernel)
set_option maxRecDepth 20000 in
theorem gX8_game_X8_play : GoodIn wsX8_game (wsV RX8 164 RX8 yX8_play wsX8_play) := goodIn_app (goodIn_of _ (by decide +kernel)) ggX8_game_X8_play
set_option maxRecDepth 20000 in
theorem ggX8_game_X8_placeOf : GoodIn wsX8_game wsX8_placeOf := goodIn_r _ [28] (by decide +kernel) (by decide +kernel)
set_option maxRecDepth 20000 in
theorem gX8_game_X8_placeOf : GoodIn wsX8_game (va_wsS RX8 145 yX8_placeOf wsX8_placeOf) := goodIn_app (goodIn_of _ (by decide +kernel)) ggX8_game_X8_placeOf
set_option maxRecDepth 20000 in
theorem ggX8_game_X8_winBehind : GoodIn wsX8_game wsX8_winBehind := goodIn_r _ [32, 12, 33, 34, 16, 35, 36, 37, 38, 39, 40, 41, 26, 27, 28, 49, 50, 51, 52, 53, 54, 55, 56, 57, 58, 59, 60, 61, 62, 63, 64, 65, 66, 67, 68, 69, 70] (by decide +kernel) (by decide +kernel)
set_option maxRecDepth 20000 in
theorem gX8_game_X8_winBehind : GoodIn wsX8_game (wsV RX8 150 RX8 yX8_winBehind wsX8_winBehind) := goodIn_app (goodIn_of _ (by decide +kernel)) ggX8_game_X8_winBehind
theorem dX8_game_0 : decode cX8_game 0 = .ok (.aload_n 0, 1) := by decide +kernel
theorem dX8_game_1 : decode cX8_game 1 = .ok (.iconst 0, 1) := by decide +kernel
theorem dX8_game_2 : decode cX8_game 2 = .ok (.putfield 52, 3) := by decide +kernel
theorem dX8_game_5 : decode cX8_game 5 = .ok (.iload_n 1, 1) := by decide +kernel
theorem dX8_game_6 : decode cX8_game 6 = .ok (.i2l, 1) := by decide +kernel
theorem dX8_game_7 : decode cX8_game 7 = .ok (.lconst 0, 1) := by decide +kernel
theorem dX8_game_8 : decode cX8_game 8 = .ok (.ldc2_w 158, 3) := by decide +kernel
theorem dX8_game_11 : decode cX8_game 11 = .ok (.invokestatic 62, 3) := by decide +kernel
theorem dX8_game_14 : decode cX8_game 14 = .ok (.ifCond .eq 55, 3) := by decide +kernel
theorem dX8_game_17 : decode cX8_game 17 = .ok (.iload_n 2, 1) := by decide +kernel
theorem dX8_game_18 : decode cX8_game 18 = .ok (.i2l, 1) := by decide +kernel
theorem dX8_game_19 : decode cX8_game 19 = .ok (.ldc2_w 160, 3) := by decide +kernel
theorem dX8_game_22 : decode cX8_game 22 = .ok (.ldc2_w 114, 3) := by decide +kernel
theorem dX8_game_25 : decode cX8_game 25 = .ok (.invokestatic 62, 3) := by decide +kernel
theorem dX8_game_28 : decode cX8_game 28 = .ok (.ifCond .eq 41, 3) := by decide +kernel
theorem dX8_game_31 : decode cX8_game 31 = .ok (.iload_n 3, 1) := by decide +kernel
theorem dX8_game_32 : decode cX8_game 32 = .ok (.i2l, 1) := by decide +kernel
theorem dX8_game_33 : decode cX8_game 33 = .ok (.lconst 0, 1) := by decide +kernel
theorem dX8_game_34 : decode cX8_game 34 = .ok (.ldc2_w 121, 3) := by decide +kernel
theorem dX8_game_37 : decode cX8_game 37 = .ok (.invokestatic 62, 3) := by decide +kernel
theorem dX8_game_40 : decode cX8_game 40 = .ok (.ifCond .eq 29, 3) := by decide +kernel
theorem dX8_game_43 : decode cX8_game 43 = .ok (.iload 4, 2) := by decide +kernel
theorem dX8_game_45 : decode cX8_game 45 = .ok (.i2l, 1) := by decide +kernel
theorem dX8_game_46 : decode cX8_game 46 = .ok (.lconst 0, 1) := by decide +kernel
theorem dX8_game_47 : decode cX8_game 47 = .ok (.ldc2_w 162, 3) := by decide +kernel
theorem dX8_game_50 : decode cX8_game 50 = .ok (.invokestatic 62, 3) := by decide +kernel
theorem dX8_game_53 : decode cX8_game 53 = .ok (.ifCond .eq 16, 3) := by decide +kernel
theorem dX8_game_56 : decode cX8_game 56 = .ok (.iload 5, 2) := by decide +kernel
theorem dX8_game_58 : decode cX8_game 58 = .ok (.i2l, 1) := by decide +kernel
theorem dX8_game_59 : decode cX8_game 59 = .ok (.lconst 0, 1) := by decide +kernel
theorem dX8_game_60 : decode cX8_game 60 = .ok (.ldc2_w 70, 3) := by decide +kernel
theorem dX8_game_63 : decode cX8_game 63 = .ok (.invokestatic 62, 3) := by decide +kernel
theorem dX8_game_66 : decode cX8_game 66 = .ok (.ifCond .ne 6, 3) := by decide +kernel
theorem dX8_game_69 : decode cX8_game 69 = .ok (.ldc 72, 2) := by decide +kernel
theorem dX8_game_71 : decode cX8_game 71 = .ok (.ireturn, 1) := by decide +kernel
theorem dX8_game_72 : decode cX8_game 72 = .ok (.aload_n 0, 1) := by decide +kernel
theorem dX8_game_73 : decode cX8_game 73 = .ok (.getfield 36, 3) := by decide +kernel
theorem dX8_game_76 : decode cX8_game 76 = .ok (.iconst 0, 1) := by decide +kernel
theorem dX8_game_77 : decode cX8_game 77 = .ok (.iaload, 1) := by decide +kernel
theorem dX8_game_78 : decode cX8_game 78 = .ok (.ldc 35, 2) := by decide +kernel
theorem dX8_game_80 : decode cX8_game 80 = .ok (.if_icmp .eq 14, 3) := by decide +kernel
theorem dX8_game_83 : decode cX8_game 83 = .ok (.aload_n 0, 1) := by decide +kernel
theorem dX8_game_84 : decode cX8_game 84 = .ok (.getfield 36, 3) := by decide +kernel
theorem dX8_game_87 : decode cX8_game 87 = .ok (.iconst 1, 1) := by decide +kernel
theorem dX8_game_88 : decode cX8_game 88 = .ok (.iaload, 1) := by decide +kernel
theorem dX8_game_89 : decode cX8_game 89 = .ok (.ldc 35, 2) := by decide +kernel
theorem dX8_game_91 : decode cX8_game 91 = .ok (.if_icmp .ne 6, 3) := by decide +kernel
theorem dX8_game_94 : decode cX8_game 94 = .ok (.ldc 113, 2) := by decide +kernel
theorem dX8_game_96 : decode cX8_game 96 = .ok (.ireturn, 1) := by decide +kernel
theorem dX8_game_97 : decode cX8_game 97 = .ok (.iconst 0, 1) := by decide +kernel
theorem dX8_game_98 : decode cX8_game 98 = .ok (.istore 6, 2) := by decide +kernel
theorem dX8_game_100 : decode cX8_game 100 = .ok (.iload 6, 2) := by decide +kernel
theorem dX8_game_102 : decode cX8_game 102 = .ok (.iload_n 1, 1) := by decide +kernel
theorem dX8_game_103 : decode cX8_game 103 = .ok (.if_icmp .gt 70, 3) := by decide +kernel
theorem dX8_game_106 : decode cX8_game 106 = .ok (.iconst 0, 1) := by decide +kernel
theorem dX8_game_107 : decode cX8_game 107 = .ok (.istore 7, 2) := by decide +kernel
theorem dX8_game_109 : decode cX8_game 109 = .ok (.iload 7, 2) := by decide +kernel
theorem dX8_game_111 : decode cX8_game 111 = .ok (.bipush 13, 2) := by decide +kernel
theorem dX8_game_113 : decode cX8_game 113 = .ok (.if_icmp .ge 54, 3) := by decide +kernel
theorem dX8_game_116 : decode cX8_game 116 = .ok (.bipush (-9), 2) := by decide +kernel
theorem dX8_game_118 : decode cX8_game 118 = .ok (.istore 8, 2) := by decide +kernel
theorem dX8_game_120 : decode cX8_game 120 = .ok (.iload 8, 2) := by decide +kernel
theorem dX8_game_122 : decode cX8_game 122 = .ok (.bipush 10, 2) := by decide +kernel
theorem dX8_game_124 : decode cX8_game 124 = .ok (.if_icmp .ge 37, 3) := by decide +kernel
theorem dX8_game_127 : decode cX8_game 127 = .ok (.iconst 0, 1) := by decide +kernel
theorem dX8_game_128 : decode cX8_game 128 = .ok (.istore 9, 2) := by decide +kernel
theorem dX8_game_130 : decode cX8_game 130 = .ok (.iload 9, 2) := by decide +kernel
theorem dX8_game_132 : decode cX8_game 132 = .ok (.bipush 25, 2) := by decide +kernel
theorem dX8_game_134 : decode cX8_game 134 = .ok (.if_icmp .ge 21, 3) := by decide +kernel
theorem dX8_game_137 : decode cX8_game 137 = .ok (.aload_n 0, 1) := by decide +kernel
theorem dX8_game_138 : decode cX8_game 138 = .ok (.iload 6, 2) := by decide +kernel
theorem dX8_game_140 : decode cX8_game 140 = .ok (.iload 8, 2) := by decide +kernel
theorem dX8_game_142 : decode cX8_game 142 = .ok (.iload 7, 2) := by decide +kernel
theorem dX8_game_144 : decode cX8_game 144 = .ok (.iload 9, 2) := by decide +kernel
theorem dX8_game_146 : decode cX8_game 146 = .ok (.invokevirtual 164, 3) := by decide +kernel
theorem dX8_game_149 : decode cX8_game 149 = .ok (.iinc 9 1, 3) := by decide +kernel
theorem dX8_game_152 : decode cX8_game 152 = .ok (.goto (-22), 3) := by decide +kernel
theorem dX8_game_155 : decode cX8_game 155 = .ok (.iinc 8 1, 3) := by decide +kernel
theorem dX8_game_158 : decode cX8_game 158 = .ok (.goto (-38), 3) := by decide +kernel
theorem dX8_game_161 : decode cX8_game 161 = .ok (.iinc 7 1, 3) := by decide +kernel
theorem dX8_game_164 : decode cX8_game 164 = .ok (.goto (-55), 3) := by decide +kernel
theorem dX8_game_167 : decode cX8_game 167 = .ok (.iinc 6 1, 3) := by decide +kernel
theorem dX8_game_170 : decode cX8_game 170 = .ok (.goto (-70), 3) := by decide +kernel
theorem dX8_game_173 : decode cX8_game 173 = .ok (.iload_n 1, 1) := by decide +kernel
theorem dX8_game_174 : decode cX8_game 174 = .ok (.iload_n 2, 1) := by decide +kernel
theorem dX8_game_175 : decode cX8_game 175 = .ok (.iload 4, 2) := by decide +kernel
theorem dX8_game_177 : decode cX8_game 177 = .ok (.iload_n 3, 1) := by decide +kernel
theorem dX8_game_178 : decode cX8_game 178 = .ok (.invokestatic 145, 3) := by decide +kernel
theorem dX8_game_181 : decode cX8_game 181 = .ok (.istore 6, 2) := by decide +kernel
theorem dX8_game_183 : decode cX8_game 183 = .ok (.iload 5, 2) := by decide +kernel
theorem dX8_game_185 : decode cX8_game 185 = .ok (.iconst 2, 1) := by decide +kernel
theorem dX8_game_186 : decode cX8_game 186 = .ok (.if_icmp .ge 26, 3) := by decide +kernel
theorem dX8_game_189 : decode cX8_game 189 = .ok (.iload 5, 2) := by decide +kernel
theorem dX8_game_191 : decode cX8_game 191 = .ok (.ifCond .ne 13, 3) := by decide +kernel
theorem dX8_game_194 : decode cX8_game 194 = .ok (.aload_n 0, 1) := by decide +kernel
theorem dX8_game_195 : decode cX8_game 195 = .ok (.getfield 40, 3) := by decide +kernel
theorem dX8_game_198 : decode cX8_game 198 = .ok (.iload 6, 2) := by decide +kernel
theorem dX8_game_200 : decode cX8_game 200 = .ok (.iaload, 1) := by decide +kernel
theorem dX8_game_201 : decode cX8_game 201 = .ok (.goto 10, 3) := by decide +kernel
theorem dX8_game_204 : decode cX8_game 204 = .ok (.aload_n 0, 1) := by decide +kernel
theorem dX8_game_205 : decode cX8_game 205 = .ok (.getfield 43, 3) := by decide +kernel
theorem dX8_game_208 : decode cX8_game 208 = .ok (.iload 6, 2) := by decide +kernel
theorem dX8_game_210 : decode cX8_game 210 = .ok (.iaload, 1) := by decide +kernel
theorem dX8_game_211 : decode cX8_game 211 = .ok (.ireturn, 1) := by decide +kernel
theorem dX8_game_212 : decode cX8_game 212 = .ok (.aload_n 0, 1) := by decide +kernel
theorem dX8_game_213 : decode cX8_game 213 = .ok (.getfield 43, 3) := by decide +kernel
theorem dX8_game_216 : decode cX8_game 216 = .ok (.iload 6, 2) := by decide +kernel
theorem dX8_game_218 : decode cX8_game 218 = .ok (.iaload, 1) := by decide +kernel
theorem dX8_game_219 : decode cX8_game 219 = .ok (.ldc 35, 2) := by decide +kernel
theorem dX8_game_221 : decode cX8_game 221 = .ok (.if_icmp .ne 5, 3) := by decide +kernel
theorem dX8_game_224 : decode cX8_game 224 = .ok (.iconst 0, 1) := by decide +kernel
theorem dX8_game_225 : decode cX8_game 225 = .ok (.ireturn, 1) := by decide +kernel
theorem dX8_game_226 : decode cX8_game 226 = .ok (.aload_n 0, 1) := by decide +kernel
theorem dX8_game_227 : decode cX8_game 227 = .ok (.iload_n 1, 1) := by decide +kernel
theorem dX8_game_228 : decode cX8_game 228 = .ok (.iload_n 2, 1) := by decide +kernel
theorem dX8_game_229 : decode cX8_game 229 = .ok (.iload 4, 2) := by decide +kernel
theorem dX8_game_231 : decode cX8_game 231 = .ok (.iload_n 3, 1) := by decide +kernel
theorem dX8_game_232 : decode cX8_game 232 = .ok (.iconst 1, 1) := by decide +kernel
theorem dX8_game_233 : decode cX8_game 233 = .ok (.invokevirtual 150, 3) := by decide +kernel
theorem dX8_game_236 : decode cX8_game 236 = .ok (.istore 7, 2) := by decide +kernel
theorem dX8_game_238 : decode cX8_game 238 = .ok (.iload_n 1, 1) := by decide +kernel
theorem dX8_game_239 : decode cX8_game 239 = .ok (.iconst 2, 1) := by decide +kernel
theorem dX8_game_240 : decode cX8_game 240 = .ok (.irem, 1) := by decide +kernel
theorem dX8_game_241 : decode cX8_game 241 = .ok (.ifCond .ne 23, 3) := by decide +kernel
theorem dX8_game_244 : decode cX8_game 244 = .ok (.iload 7, 2) := by decide +kernel
theorem dX8_game_246 : decode cX8_game 246 = .ok (.aload_n 0, 1) := by decide +kernel
theorem dX8_game_247 : decode cX8_game 247 = .ok (.getfield 40, 3) := by decide +kernel
theorem dX8_game_250 : decode cX8_game 250 = .ok (.iload 6, 2) := by decide +kernel
theorem dX8_game_252 : decode cX8_game 252 = .ok (.iaload, 1) := by decide +kernel
theorem dX8_game_253 : decode cX8_game 253 = .ok (.if_icmp .ge 7, 3) := by decide +kernel
theorem dX8_game_256 : decode cX8_game 256 = .ok (.iconst 1, 1) := by decide +kernel
theorem dX8_game_257 : decode cX8_game 257 = .ok (.goto 24, 3) := by decide +kernel
theorem dX8_game_260 : decode cX8_game 260 = .ok (.iconst 0, 1) := by decide +kernel
theorem dX8_game_261 : decode cX8_game 261 = .ok (.goto 20, 3) := by decide +kernel
theorem dX8_game_264 : decode cX8_game 264 = .ok (.iload 7, 2) := by decide +kernel
theorem dX8_game_266 : decode cX8_game 266 = .ok (.aload_n 0, 1) := by decide +kernel
theorem dX8_game_267 : decode cX8_game 267 = .ok (.getfield 40, 3) := by decide +kernel
theorem dX8_game_270 : decode cX8_game 270 = .ok (.iload 6, 2) := by decide +kernel
theorem dX8_game_272 : decode cX8_game 272 = .ok (.iaload, 1) := by decide +kernel
theorem dX8_game_273 : decode cX8_game 273 = .ok (.if_icmp .le 7, 3) := by decide +kernel
theorem dX8_game_276 : decode cX8_game 276 = .ok (.iconst 1, 1) := by decide +kernel
theorem dX8_game_277 : decode cX8_game 277 = .ok (.goto 4, 3) := by decide +kernel
theorem dX8_game_280 : decode cX8_game 280 = .ok (.iconst 0, 1) := by decide +kernel
theorem dX8_game_281 : decode cX8_game 281 = .ok (.ireturn, 1) := by decide +kernel
set_option maxRecDepth 20000 in
theorem ggX8_readLog_X8_found : GoodIn wsX8_readLog wsX8_found := goodIn_r _ [16, 3, 17, 33, 34, 35, 36, 37, 38, 39, 40, 41, 42, 43, 44, 45, 46, 47, 48, 49, 50, 51, 52, 53, 54] (by decide +kernel) (by decide +kernel)
set_option maxRecDepth 20000 in
theorem gX8_readLog_X8_found : GoodIn wsX8_readLog (wsV RX8 73 RX8 yX8_found wsX8_found) := goodIn_app (goodIn_of _ (by decide +kernel)) ggX8_readLog_X8_found
set_option maxRecDepth 20000 in
theorem ggX8_readLog_X8_in : GoodIn wsX8_readLog wsX8_in := goodIn_r _ [20] (by decide +kernel) (by decide +kernel)
set_option maxRecDepth 20000 in
theorem gX8_readLog_X8_in : GoodIn wsX8_readLog (va_wsS RX8 62 yX8_in wsX8_in) := goodIn_app (goodIn_of _ (by decide +kernel)) ggX8_readLog_X8_in
set_option maxRecDepth 20000 in
theorem ggX8_readLog_X8_mayBe : GoodIn wsX8_readLog wsX8_mayBe := goodIn_r _ [23] (by decide +kernel) (by decide +kernel)
set_option maxRecDepth 20000 in
theorem gX8_readLog_X8_mayBe : GoodIn wsX8_readLog (va_wsS RX8 84 yX8_mayBe wsX8_mayBe) := goodIn_app (goodIn_of _ (by decide +kernel)) ggX8_readLog_X8_mayBe
set_option maxRecDepth 20000 in
theorem ggX8_readLog_X8_next : GoodIn wsX8_readLog wsX8_next := goodIn_r _ [26] (by decide +kernel) (by decide +kernel)
set_option maxRecDepth 20000 in
theorem gX8_readLog_X8_next : GoodIn wsX8_readLog (va_wsS RX8 88 yX8_next wsX8_next) := goodIn_app (goodIn_of _ (by decide +kernel)) ggX8_readLog_X8_next
set_option maxRecDepth 20000 in
theorem ggX8_readLog_X8_runs : GoodIn wsX8_readLog wsX8_runs := goodIn_r _ [29, 30, 31, 15, 32] (by decide +kernel) (by decide +kernel)
set_option maxRecDepth 20000 in
theorem gX8_readLog_X8_runs : GoodIn wsX8_readLog (va_wsS RX8 92 yX8_runs wsX8_runs) := goodIn_app (goodIn_of _ (by decide +kernel)) ggX8_readLog_X8_runs
theorem dX8_readLog_0 : decode cX8_readLog 0 = .ok (.aload_n 0, 1) := by decide +kernel
theorem dX8_readLog_1 : decode cX8_readLog 1 = .ok (.getfield 7, 3) := by decide +kernel
theorem dX8_readLog_4 : decode cX8_readLog 4 = .ok (.iload_n 1, 1) := by decide +kernel
theorem dX8_readLog_5 : decode cX8_readLog 5 = .ok (.iaload, 1) := by decide +kernel
theorem dX8_readLog_6 : decode cX8_readLog 6 = .ok (.ifCond .ge 9, 3) := by decide +kernel
theorem dX8_readLog_9 : decode cX8_readLog 9 = .ok (.aload_n 0, 1) := by decide +kernel
theorem dX8_readLog_10 : decode cX8_readLog 10 = .ok (.iconst 1, 1) := by decide +kernel
theorem dX8_readLog_11 : decode cX8_readLog 11 = .ok (.invokevirtual 73, 3) := by decide +kernel
theorem dX8_readLog_14 : decode cX8_readLog 14 = .ok (.ireturn, 1) := by decide +kernel
theorem dX8_readLog_15 : decode cX8_readLog 15 = .ok (.iload_n 2, 1) := by decide +kernel
theorem dX8_readLog_16 : decode cX8_readLog 16 = .ok (.ifCond .lt 21, 3) := by decide +kernel
theorem dX8_readLog_19 : decode cX8_readLog 19 = .ok (.iload_n 2, 1) := by decide +kernel
theorem dX8_readLog_20 : decode cX8_readLog 20 = .ok (.i2l, 1) := by decide +kernel
theorem dX8_readLog_21 : decode cX8_readLog 21 = .ok (.iconst 3, 1) := by decide +kernel
theorem dX8_readLog_22 : decode cX8_readLog 22 = .ok (.iload_n 3, 1) := by decide +kernel
theorem dX8_readLog_23 : decode cX8_readLog 23 = .ok (.imul, 1) := by decide +kernel
theorem dX8_readLog_24 : decode cX8_readLog 24 = .ok (.i2l, 1) := by decide +kernel
theorem dX8_readLog_25 : decode cX8_readLog 25 = .ok (.ladd, 1) := by decide +kernel
theorem dX8_readLog_26 : decode cX8_readLog 26 = .ok (.aload_n 0, 1) := by decide +kernel
theorem dX8_readLog_27 : decode cX8_readLog 27 = .ok (.getfield 13, 3) := by decide +kernel
theorem dX8_readLog_30 : decode cX8_readLog 30 = .ok (.iload_n 1, 1) := by decide +kernel
theorem dX8_readLog_31 : decode cX8_readLog 31 = .ok (.iaload, 1) := by decide +kernel
theorem dX8_readLog_32 : decode cX8_readLog 32 = .ok (.i2l, 1) := by decide +kernel
theorem dX8_readLog_33 : decode cX8_readLog 33 = .ok (.lcmp, 1) := by decide +kernel
theorem dX8_readLog_34 : decode cX8_readLog 34 = .ok (.ifCond .le 9, 3) := by decide +kernel
theorem dX8_readLog_37 : decode cX8_readLog 37 = .ok (.aload_n 0, 1) := by decide +kernel
theorem dX8_readLog_38 : decode cX8_readLog 38 = .ok (.iconst 2, 1) := by decide +kernel
theorem dX8_readLog_39 : decode cX8_readLog 39 = .ok (.invokevirtual 73, 3) := by decide +kernel
theorem dX8_readLog_42 : decode cX8_readLog 42 = .ok (.ireturn, 1) := by decide +kernel
theorem dX8_readLog_43 : decode cX8_readLog 43 = .ok (.aload_n 0, 1) := by decide +kernel
theorem dX8_readLog_44 : decode cX8_readLog 44 = .ok (.iconst 0, 1) := by decide +kernel
theorem dX8_readLog_45 : decode cX8_readLog 45 = .ok (.putfield 56, 3) := by decide +kernel
theorem dX8_readLog_48 : decode cX8_readLog 48 = .ok (.aload_n 0, 1) := by decide +kernel
theorem dX8_readLog_49 : decode cX8_readLog 49 = .ok (.ldc 35, 2) := by decide +kernel
theorem dX8_readLog_51 : decode cX8_readLog 51 = .ok (.putfield 167, 3) := by decide +kernel
theorem dX8_readLog_54 : decode cX8_readLog 54 = .ok (.aload_n 0, 1) := by decide +kernel
theorem dX8_readLog_55 : decode cX8_readLog 55 = .ok (.iconst 0, 1) := by decide +kernel
theorem dX8_readLog_56 : decode cX8_readLog 56 = .ok (.putfield 170, 3) := by decide +kernel
theorem dX8_readLog_59 : decode cX8_readLog 59 = .ok (.aload_n 0, 1) := by decide +kernel
theorem dX8_readLog_60 : decode cX8_readLog 60 = .ok (.iconst 0, 1) := by decide +kernel
theorem dX8_readLog_61 : decode cX8_readLog 61 = .ok (.putfield 173, 3) := by decide +kernel
theorem dX8_readLog_64 : decode cX8_readLog 64 = .ok (.aload_n 0, 1) := by decide +kernel
theorem dX8_readLog_65 : decode cX8_readLog 65 = .ok (.iconst 0, 1) := by decide +kernel
theorem dX8_readLog_66 : decode cX8_readLog 66 = .ok (.putfield 176, 3) := by decide +kernel
theorem dX8_readLog_69 : decode cX8_readLog 69 = .ok (.iconst 0, 1) := by decide +kernel
theorem dX8_readLog_70 : decode cX8_readLog 70 = .ok (.istore 4, 2) := by decide +kernel
theorem dX8_readLog_72 : decode cX8_readLog 72 = .ok (.iload 4, 2) := by decide +kernel
theorem dX8_readLog_74 : decode cX8_readLog 74 = .ok (.bipush 9, 2) := by decide +kernel
theorem dX8_readLog_76 : decode cX8_readLog 76 = .ok (.if_icmp .ge 17, 3) := by decide +kernel
theorem dX8_readLog_79 : decode cX8_readLog 79 = .ok (.aload_n 0, 1) := by decide +kernel
theorem dX8_readLog_80 : decode cX8_readLog 80 = .ok (.getfield 46, 3) := by decide +kernel
theorem dX8_readLog_83 : decode cX8_readLog 83 = .ok (.iload 4, 2) := by decide +kernel
theorem dX8_readLog_85 : decode cX8_readLog 85 = .ok (.iconst 0, 1) := by decide +kernel
theorem dX8_readLog_86 : decode cX8_readLog 86 = .ok (.iastore, 1) := by decide +kernel
theorem dX8_readLog_87 : decode cX8_readLog 87 = .ok (.iinc 4 1, 3) := by decide +kernel
theorem dX8_readLog_90 : decode cX8_readLog 90 = .ok (.goto (-18), 3) := by decide +kernel
theorem dX8_readLog_93 : decode cX8_readLog 93 = .ok (.iconst 0, 1) := by decide +kernel
theorem dX8_readLog_94 : decode cX8_readLog 94 = .ok (.istore 4, 2) := by decide +kernel
theorem dX8_readLog_96 : decode cX8_readLog 96 = .ok (.iload 4, 2) := by decide +kernel
theorem dX8_readLog_98 : decode cX8_readLog 98 = .ok (.iload_n 3, 1) := by decide +kernel
theorem dX8_readLog_99 : decode cX8_readLog 99 = .ok (.if_icmp .ge 202, 3) := by decide +kernel
theorem dX8_readLog_102 : decode cX8_readLog 102 = .ok (.aload_n 0, 1) := by decide +kernel
theorem dX8_readLog_103 : decode cX8_readLog 103 = .ok (.getfield 167, 3) := by decide +kernel
theorem dX8_readLog_106 : decode cX8_readLog 106 = .ok (.ldc 35, 2) := by decide +kernel
theorem dX8_readLog_108 : decode cX8_readLog 108 = .ok (.if_icmp .ne 193, 3) := by decide +kernel
theorem dX8_readLog_111 : decode cX8_readLog 111 = .ok (.bipush 60, 2) := by decide +kernel
theorem dX8_readLog_113 : decode cX8_readLog 113 = .ok (.iload_n 1, 1) := by decide +kernel
theorem dX8_readLog_114 : decode cX8_readLog 114 = .ok (.imul, 1) := by decide +kernel
theorem dX8_readLog_115 : decode cX8_readLog 115 = .ok (.iload_n 2, 1) := by decide +kernel
theorem dX8_readLog_116 : decode cX8_readLog 116 = .ok (.iadd, 1) := by decide +kernel
theorem dX8_readLog_117 : decode cX8_readLog 117 = .ok (.iconst 3, 1) := by decide +kernel
theorem dX8_readLog_118 : decode cX8_readLog 118 = .ok (.iload 4, 2) := by decide +kernel
theorem dX8_readLog_120 : decode cX8_readLog 120 = .ok (.imul, 1) := by decide +kernel
theorem dX8_readLog_121 : decode cX8_readLog 121 = .ok (.iadd, 1) := by decide +kernel
theorem dX8_readLog_122 : decode cX8_readLog 122 = .ok (.istore 5, 2) := by decide +kernel
theorem dX8_readLog_124 : decode cX8_readLog 124 = .ok (.aload_n 0, 1) := by decide +kernel
theorem dX8_readLog_125 : decode cX8_readLog 125 = .ok (.getfield 16, 3) := by decide +kernel
theorem dX8_readLog_128 : decode cX8_readLog 128 = .ok (.iload 5, 2) := by decide +kernel
theorem dX8_readLog_130 : decode cX8_readLog 130 = .ok (.iaload, 1) := by decide +kernel
theorem dX8_readLog_131 : decode cX8_readLog 131 = .ok (.istore 6, 2) := by decide +kernel
theorem dX8_readLog_133 : decode cX8_readLog 133 = .ok (.aload_n 0, 1) := by decide +kernel
theorem dX8_readLog_134 : decode cX8_readLog 134 = .ok (.getfield 176, 3) := by decide +kernel
theorem dX8_readLog_137 : decode cX8_readLog 137 = .ok (.bipush 24, 2) := by decide +kernel
theorem dX8_readLog_139 : decode cX8_readLog 139 = .ok (.if_icmp .ne 7, 3) := by decide +kernel
theorem dX8_readLog_142 : decode cX8_readLog 142 = .ok (.iconst 0, 1) := by decide +kernel
theorem dX8_readLog_143 : decode cX8_readLog 143 = .ok (.goto 7, 3) := by decide +kernel
theorem dX8_readLog_146 : decode cX8_readLog 146 = .ok (.aload_n 0, 1) := by decide +kernel
theorem dX8_readLog_147 : decode cX8_readLog 147 = .ok (.getfield 176, 3) := by decide +kernel
theorem dX8_readLog_150 : decode cX8_readLog 150 = .ok (.istore 7, 2) := by decide +kernel
theorem dX8_readLog_152 : decode cX8_readLog 152 = .ok (.iload 6, 2) := by decide +kernel
theorem dX8_readLog_154 : decode cX8_readLog 154 = .ok (.i2l, 1) := by decide +kernel
theorem dX8_readLog_155 : decode cX8_readLog 155 = .ok (.lconst 0, 1) := by decide +kernel
theorem dX8_readLog_156 : decode cX8_readLog 156 = .ok (.ldc2_w 82, 3) := by decide +kernel
theorem dX8_readLog_159 : decode cX8_readLog 159 = .ok (.invokestatic 62, 3) := by decide +kernel
theorem dX8_readLog_162 : decode cX8_readLog 162 = .ok (.ifCond .eq 55, 3) := by decide +kernel
theorem dX8_readLog_165 : decode cX8_readLog 165 = .ok (.iload 7, 2) := by decide +kernel
theorem dX8_readLog_167 : decode cX8_readLog 167 = .ok (.iload 6, 2) := by decide +kernel
theorem dX8_readLog_169 : decode cX8_readLog 169 = .ok (.invokestatic 84, 3) := by decide +kernel
theorem dX8_readLog_172 : decode cX8_readLog 172 = .ok (.ifCond .eq 45, 3) := by decide +kernel
theorem dX8_readLog_175 : decode cX8_readLog 175 = .ok (.iload 7, 2) := by decide +kernel
theorem dX8_readLog_177 : decode cX8_readLog 177 = .ok (.iload 6, 2) := by decide +kernel
theorem dX8_readLog_179 : decode cX8_readLog 179 = .ok (.invokestatic 88, 3) := by decide +kernel
theorem dX8_readLog_182 : decode cX8_readLog 182 = .ok (.aload_n 0, 1) := by decide +kernel
theorem dX8_readLog_183 : decode cX8_readLog 183 = .ok (.getfield 16, 3) := by decide +kernel
theorem dX8_readLog_186 : decode cX8_readLog 186 = .ok (.iload 5, 2) := by decide +kernel
theorem dX8_readLog_188 : decode cX8_readLog 188 = .ok (.iconst 1, 1) := by decide +kernel
theorem dX8_readLog_189 : decode cX8_readLog 189 = .ok (.iadd, 1) := by decide +kernel
theorem dX8_readLog_190 : decode cX8_readLog 190 = .ok (.iaload, 1) := by decide +kernel
theorem dX8_readLog_191 : decode cX8_readLog 191 = .ok (.if_icmp .ne 26, 3) := by decide +kernel
theorem dX8_readLog_194 : decode cX8_readLog 194 = .ok (.iload 7, 2) := by decide +kernel
theorem dX8_readLog_196 : decode cX8_readLog 196 = .ok (.iload 6, 2) := by decide +kernel
theorem dX8_readLog_198 : decode cX8_readLog 198 = .ok (.invokestatic 92, 3) := by decide +kernel
theorem dX8_readLog_201 : decode cX8_readLog 201 = .ok (.aload_n 0, 1) := by decide +kernel
theorem dX8_readLog_202 : decode cX8_readLog 202 = .ok (.getfield 16, 3) := by decide +kernel
theorem dX8_readLog_205 : decode cX8_readLog 205 = .ok (.iload 5, 2) := by decide +kernel
theorem dX8_readLog_207 : decode cX8_readLog 207 = .ok (.iconst 2, 1) := by decide +kernel
theorem dX8_readLog_208 : decode cX8_readLog 208 = .ok (.iadd, 1) := by decide +kernel
theorem dX8_readLog_209 : decode cX8_readLog 209 = .ok (.iaload, 1) := by decide +kernel
theorem dX8_readLog_210 : decode cX8_readLog 210 = .ok (.if_icmp .ne 7, 3) := by decide +kernel
theorem dX8_readLog_213 : decode cX8_readLog 213 = .ok (.iconst 1, 1) := by decide +kernel
theorem dX8_readLog_214 : decode cX8_readLog 214 = .ok (.goto 4, 3) := by decide +kernel
theorem dX8_readLog_217 : decode cX8_readLog 217 = .ok (.iconst 0, 1) := by decide +kernel
theorem dX8_readLog_218 : decode cX8_readLog 218 = .ok (.istore 8, 2) := by decide +kernel
theorem dX8_readLog_220 : decode cX8_readLog 220 = .ok (.iload 8, 2) := by decide +kernel
theorem dX8_readLog_222 : decode cX8_readLog 222 = .ok (.ifCond .eq 67, 3) := by decide +kernel
theorem dX8_readLog_225 : decode cX8_readLog 225 = .ok (.aload_n 0, 1) := by decide +kernel
theorem dX8_readLog_226 : decode cX8_readLog 226 = .ok (.getfield 46, 3) := by decide +kernel
theorem dX8_readLog_229 : decode cX8_readLog 229 = .ok (.iload 6, 2) := by decide +kernel
theorem dX8_readLog_231 : decode cX8_readLog 231 = .ok (.dup2, 1) := by decide +kernel
theorem dX8_readLog_232 : decode cX8_readLog 232 = .ok (.iaload, 1) := by decide +kernel
theorem dX8_readLog_233 : decode cX8_readLog 233 = .ok (.iconst 1, 1) := by decide +kernel
theorem dX8_readLog_234 : decode cX8_readLog 234 = .ok (.iadd, 1) := by decide +kernel
theorem dX8_readLog_235 : decode cX8_readLog 235 = .ok (.iastore, 1) := by decide +kernel
theorem dX8_readLog_236 : decode cX8_readLog 236 = .ok (.aload_n 0, 1) := by decide +kernel
theorem dX8_readLog_237 : decode cX8_readLog 237 = .ok (.dup, 1) := by decide +kernel
theorem dX8_readLog_238 : decode cX8_readLog 238 = .ok (.getfield 170, 3) := by decide +kernel
theorem dX8_readLog_241 : decode cX8_readLog 241 = .ok (.iload 7, 2) := by decide +kernel
theorem dX8_readLog_243 : decode cX8_readLog 243 = .ok (.iload 6, 2) := by decide +kernel
theorem dX8_readLog_245 : decode cX8_readLog 245 = .ok (.invokestatic 92, 3) := by decide +kernel
theorem dX8_readLog_248 : decode cX8_readLog 248 = .ok (.iadd, 1) := by decide +kernel
theorem dX8_readLog_249 : decode cX8_readLog 249 = .ok (.putfield 170, 3) := by decide +kernel
theorem dX8_readLog_252 : decode cX8_readLog 252 = .ok (.aload_n 0, 1) := by decide +kernel
theorem dX8_readLog_253 : decode cX8_readLog 253 = .ok (.iload 7, 2) := by decide +kernel
theorem dX8_readLog_255 : decode cX8_readLog 255 = .ok (.iload 6, 2) := by decide +kernel
theorem dX8_readLog_257 : decode cX8_readLog 257 = .ok (.invokestatic 88, 3) := by decide +kernel
theorem dX8_readLog_260 : decode cX8_readLog 260 = .ok (.putfield 176, 3) := by decide +kernel
theorem dX8_readLog_263 : decode cX8_readLog 263 = .ok (.aload_n 0, 1) := by decide +kernel
theorem dX8_readLog_264 : decode cX8_readLog 264 = .ok (.dup, 1) := by decide +kernel
theorem dX8_readLog_265 : decode cX8_readLog 265 = .ok (.getfield 173, 3) := by decide +kernel
theorem dX8_readLog_268 : decode cX8_readLog 268 = .ok (.aload_n 0, 1) := by decide +kernel
theorem dX8_readLog_269 : decode cX8_readLog 269 = .ok (.getfield 176, 3) := by decide +kernel
theorem dX8_readLog_272 : decode cX8_readLog 272 = .ok (.bipush 24, 2) := by decide +kernel
theorem dX8_readLog_274 : decode cX8_readLog 274 = .ok (.if_icmp .ne 7, 3) := by decide +kernel
theorem dX8_readLog_277 : decode cX8_readLog 277 = .ok (.iconst 1, 1) := by decide +kernel
theorem dX8_readLog_278 : decode cX8_readLog 278 = .ok (.goto 4, 3) := by decide +kernel
theorem dX8_readLog_281 : decode cX8_readLog 281 = .ok (.iconst 0, 1) := by decide +kernel
theorem dX8_readLog_282 : decode cX8_readLog 282 = .ok (.iadd, 1) := by decide +kernel
theorem dX8_readLog_283 : decode cX8_readLog 283 = .ok (.putfield 173, 3) := by decide +kernel
theorem dX8_readLog_286 : decode cX8_readLog 286 = .ok (.goto 9, 3) := by decide +kernel
theorem dX8_readLog_289 : decode cX8_readLog 289 = .ok (.aload_n 0, 1) := by decide +kernel
theorem dX8_readLog_290 : decode cX8_readLog 290 = .ok (.iload 4, 2) := by decide +kernel
theorem dX8_readLog_292 : decode cX8_readLog 292 = .ok (.putfield 167, 3) := by decide +kernel
theorem dX8_readLog_295 : decode cX8_readLog 295 = .ok (.iinc 4 1, 3) := by decide +kernel
theorem dX8_readLog_298 : decode cX8_readLog 298 = .ok (.goto (-202), 3) := by decide +kernel
theorem dX8_readLog_301 : decode cX8_readLog 301 = .ok (.iconst 0, 1) := by decide +kernel
theorem dX8_readLog_302 : decode cX8_readLog 302 = .ok (.ireturn, 1) := by decide +kernel
set_option maxRecDepth 20000 in
theorem ggX8_log_X8_isSheet : GoodIn wsX8_log wsX8_isSheet := goodIn_r _ [15, 16, 17, 18, 14, 19] (by decide +kernel) (by decide +kernel)
set_option maxRecDepth 20000 in
theorem gX8_log_X8_isSheet : GoodIn wsX8_log (va_wsS RX8 66 yX8_isSheet wsX8_isSheet) := goodIn_app (goodIn_of _ (by decide +kernel)) ggX8_log_X8_isSheet
set_option maxRecDepth 20000 in
theorem ggX8_log_X8_in : GoodIn wsX8_log wsX8_in := goodIn_r _ [19] (by decide +kernel) (by decide +kernel)
set_option maxRecDepth 20000 in
theorem gX8_log_X8_in : GoodIn wsX8_log (va_wsS RX8 62 yX8_in wsX8_in) := goodIn_app (goodIn_of _ (by decide +kernel)) ggX8_log_X8_in
set_option maxRecDepth 20000 in
theorem ggX8_log_X8_readLog : GoodIn wsX8_log wsX8_readLog := goodIn_r _ [23, 24, 25, 26, 27, 7, 8, 9, 10, 11, 28, 29, 30, 31, 32, 14, 33, 34, 17, 18, 19, 35, 36, 37, 38, 39, 40, 41, 42, 43, 44, 45, 46, 47, 48, 49, 50, 51, 52, 53, 54, 55, 56, 57, 58, 59, 60, 61, 62, 63, 64, 65, 66, 67, 68] (by decide +kernel) (by decide +kernel)
set_option maxRecDepth 20000 in
theorem gX8_log_X8_readLog : GoodIn wsX8_log (wsV RX8 187 RX8 yX8_readLog wsX8_readLog) := goodIn_app (goodIn_of _ (by decide +kernel)) ggX8_log_X8_readLog
theorem dX8_log_0 : decode cX8_log 0 = .ok (.aload_n 0, 1) := by decide +kernel
theorem dX8_log_1 : decode cX8_log 1 = .ok (.iconst 0, 1) := by decide +kernel
theorem dX8_log_2 : decode cX8_log 2 = .ok (.putfield 52, 3) := by decide +kernel
theorem dX8_log_5 : decode cX8_log 5 = .ok (.iload_n 1, 1) := by decide +kernel
theorem dX8_log_6 : decode cX8_log 6 = .ok (.invokestatic 66, 3) := by decide +kernel
theorem dX8_log_9 : decode cX8_log 9 = .ok (.ifCond .eq 43, 3) := by decide +kernel
theorem dX8_log_12 : decode cX8_log 12 = .ok (.iload_n 3, 1) := by decide +kernel
theorem dX8_log_13 : decode cX8_log 13 = .ok (.i2l, 1) := by decide +kernel
theorem dX8_log_14 : decode cX8_log 14 = .ok (.lconst 1, 1) := by decide +kernel
theorem dX8_log_15 : decode cX8_log 15 = .ok (.ldc2_w 179, 3) := by decide +kernel
theorem dX8_log_18 : decode cX8_log 18 = .ok (.invokestatic 62, 3) := by decide +kernel
theorem dX8_log_21 : decode cX8_log 21 = .ok (.ifCond .eq 31, 3) := by decide +kernel
theorem dX8_log_24 : decode cX8_log 24 = .ok (.iload 4, 2) := by decide +kernel
theorem dX8_log_26 : decode cX8_log 26 = .ok (.i2l, 1) := by decide +kernel
theorem dX8_log_27 : decode cX8_log 27 = .ok (.lconst 0, 1) := by decide +kernel
theorem dX8_log_28 : decode cX8_log 28 = .ok (.ldc2_w 181, 3) := by decide +kernel
theorem dX8_log_31 : decode cX8_log 31 = .ok (.invokestatic 62, 3) := by decide +kernel
theorem dX8_log_34 : decode cX8_log 34 = .ok (.ifCond .ne 21, 3) := by decide +kernel
theorem dX8_log_37 : decode cX8_log 37 = .ok (.iload 4, 2) := by decide +kernel
theorem dX8_log_39 : decode cX8_log 39 = .ok (.i2l, 1) := by decide +kernel
theorem dX8_log_40 : decode cX8_log 40 = .ok (.ldc2_w 183, 3) := by decide +kernel
theorem dX8_log_43 : decode cX8_log 43 = .ok (.ldc2_w 185, 3) := by decide +kernel
theorem dX8_log_46 : decode cX8_log 46 = .ok (.invokestatic 62, 3) := by decide +kernel
theorem dX8_log_49 : decode cX8_log 49 = .ok (.ifCond .ne 6, 3) := by decide +kernel
theorem dX8_log_52 : decode cX8_log 52 = .ok (.ldc 72, 2) := by decide +kernel
theorem dX8_log_54 : decode cX8_log 54 = .ok (.ireturn, 1) := by decide +kernel
theorem dX8_log_55 : decode cX8_log 55 = .ok (.aload_n 0, 1) := by decide +kernel
theorem dX8_log_56 : decode cX8_log 56 = .ok (.iload_n 1, 1) := by decide +kernel
theorem dX8_log_57 : decode cX8_log 57 = .ok (.iload_n 2, 1) := by decide +kernel
theorem dX8_log_58 : decode cX8_log 58 = .ok (.iload_n 3, 1) := by decide +kernel
theorem dX8_log_59 : decode cX8_log 59 = .ok (.invokevirtual 187, 3) := by decide +kernel
theorem dX8_log_62 : decode cX8_log 62 = .ok (.istore 5, 2) := by decide +kernel
theorem dX8_log_64 : decode cX8_log 64 = .ok (.iload 5, 2) := by decide +kernel
theorem dX8_log_66 : decode cX8_log 66 = .ok (.ifCond .ge 8, 3) := by decide +kernel
theorem dX8_log_69 : decode cX8_log 69 = .ok (.iload 5, 2) := by decide +kernel
theorem dX8_log_71 : decode cX8_log 71 = .ok (.goto 64, 3) := by decide +kernel
theorem dX8_log_74 : decode cX8_log 74 = .ok (.iload 4, 2) := by decide +kernel
theorem dX8_log_76 : decode cX8_log 76 = .ok (.ifCond .ne 10, 3) := by decide +kernel
theorem dX8_log_79 : decode cX8_log 79 = .ok (.aload_n 0, 1) := by decide +kernel
theorem dX8_log_80 : decode cX8_log 80 = .ok (.getfield 167, 3) := by decide +kernel
theorem dX8_log_83 : decode cX8_log 83 = .ok (.goto 52, 3) := by decide +kernel
theorem dX8_log_86 : decode cX8_log 86 = .ok (.iload 4, 2) := by decide +kernel
theorem dX8_log_88 : decode cX8_log 88 = .ok (.iconst 1, 1) := by decide +kernel
theorem dX8_log_89 : decode cX8_log 89 = .ok (.if_icmp .ne 10, 3) := by decide +kernel
theorem dX8_log_92 : decode cX8_log 92 = .ok (.aload_n 0, 1) := by decide +kernel
theorem dX8_log_93 : decode cX8_log 93 = .ok (.getfield 170, 3) := by decide +kernel
theorem dX8_log_96 : decode cX8_log 96 = .ok (.goto 39, 3) := by decide +kernel
theorem dX8_log_99 : decode cX8_log 99 = .ok (.iload 4, 2) := by decide +kernel
theorem dX8_log_101 : decode cX8_log 101 = .ok (.iconst 2, 1) := by decide +kernel
theorem dX8_log_102 : decode cX8_log 102 = .ok (.if_icmp .ne 10, 3) := by decide +kernel
theorem dX8_log_105 : decode cX8_log 105 = .ok (.aload_n 0, 1) := by decide +kernel
theorem dX8_log_106 : decode cX8_log 106 = .ok (.getfield 173, 3) := by decide +kernel
theorem dX8_log_109 : decode cX8_log 109 = .ok (.goto 26, 3) := by decide +kernel
theorem dX8_log_112 : decode cX8_log 112 = .ok (.iload 4, 2) := by decide +kernel
theorem dX8_log_114 : decode cX8_log 114 = .ok (.iconst 3, 1) := by decide +kernel
theorem dX8_log_115 : decode cX8_log 115 = .ok (.if_icmp .ne 10, 3) := by decide +kernel
theorem dX8_log_118 : decode cX8_log 118 = .ok (.aload_n 0, 1) := by decide +kernel
theorem dX8_log_119 : decode cX8_log 119 = .ok (.getfield 176, 3) := by decide +kernel
theorem dX8_log_122 : decode cX8_log 122 = .ok (.goto 13, 3) := by decide +kernel
theorem dX8_log_125 : decode cX8_log 125 = .ok (.aload_n 0, 1) := by decide +kernel
theorem dX8_log_126 : decode cX8_log 126 = .ok (.getfield 46, 3) := by decide +kernel
theorem dX8_log_129 : decode cX8_log 129 = .ok (.iload 4, 2) := by decide +kernel
theorem dX8_log_131 : decode cX8_log 131 = .ok (.bipush 10, 2) := by decide +kernel
theorem dX8_log_133 : decode cX8_log 133 = .ok (.isub, 1) := by decide +kernel
theorem dX8_log_134 : decode cX8_log 134 = .ok (.iaload, 1) := by decide +kernel
theorem dX8_log_135 : decode cX8_log 135 = .ok (.ireturn, 1) := by decide +kernel
set_option maxRecDepth 20000 in
theorem ggX8_learn_X8_isSheet : GoodIn wsX8_learn wsX8_isSheet := goodIn_r _ [13, 14, 15, 16, 12, 17] (by decide +kernel) (by decide +kernel)
set_option maxRecDepth 20000 in
theorem gX8_learn_X8_isSheet : GoodIn wsX8_learn (va_wsS RX8 66 yX8_isSheet wsX8_isSheet) := goodIn_app (goodIn_of _ (by decide +kernel)) ggX8_learn_X8_isSheet
set_option maxRecDepth 20000 in
theorem ggX8_learn_X8_in : GoodIn wsX8_learn wsX8_in := goodIn_r _ [17] (by decide +kernel) (by decide +kernel)
set_option maxRecDepth 20000 in
theorem gX8_learn_X8_in : GoodIn wsX8_learn (va_wsS RX8 62 yX8_in wsX8_in) := goodIn_app (goodIn_of _ (by decide +kernel)) ggX8_learn_X8_in
set_option maxRecDepth 20000 in
theorem ggX8_learn_X8_isChance : GoodIn wsX8_learn wsX8_isChance := goodIn_r _ [20, 21, 15, 16, 12, 17] (by decide +kernel) (by decide +kernel)
set_option maxRecDepth 20000 in
theorem gX8_learn_X8_isChance : GoodIn wsX8_learn (va_wsS RX8 100 yX8_isChance wsX8_isChance) := goodIn_app (goodIn_of _ (by decide +kernel)) ggX8_learn_X8_isChance
set_option maxRecDepth 20000 in
theorem ggX8_learn_X8_readLog : GoodIn wsX8_learn wsX8_readLog := goodIn_r _ [25, 26, 27, 6, 28, 29, 30, 31, 32, 7, 33, 34, 35, 36, 37, 12, 38, 39, 15, 16, 17, 40, 41, 42, 43, 44, 45, 46, 47, 48, 49, 50, 51, 56, 57, 58, 59, 60, 61, 62, 63, 64, 65, 66, 67, 68, 69, 70, 71, 72, 73, 74, 75, 76, 77] (by decide +kernel) (by decide +kernel)
set_option maxRecDepth 20000 in
theorem gX8_learn_X8_readLog : GoodIn wsX8_learn (wsV RX8 187 RX8 yX8_readLog wsX8_readLog) := goodIn_app (goodIn_of _ (by decide +kernel)) ggX8_learn_X8_readLog
set_option maxRecDepth 20000 in
theorem ggX8_learn_X8_settle : GoodIn wsX8_learn wsX8_settle := goodIn_r _ [55, 9, 56, 57, 58, 59, 60, 61, 62, 63, 64, 65, 66, 67, 68, 69, 70, 71, 72, 73, 74, 75, 76, 77] (by decide +kernel) (by decide +kernel)
set_option maxRecDepth 20000 in
theorem gX8_learn_X8_settle : GoodIn wsX8_learn (wsV RX8 104 RX8 yX8_settle wsX8_settle) := goodIn_app (goodIn_of _ (by decide +kernel)) ggX8_learn_X8_settle
theorem dX8_learn_0 : decode cX8_learn 0 = .ok (.aload_n 0, 1) := by decide +kernel
theorem dX8_learn_1 : decode cX8_learn 1 = .ok (.iconst 0, 1) := by decide +kernel
theorem dX8_learn_2 : decode cX8_learn 2 = .ok (.putfield 52, 3) := by decide +kernel
theorem dX8_learn_5 : decode cX8_learn 5 = .ok (.iload_n 1, 1) := by decide +kernel
theorem dX8_learn_6 : decode cX8_learn 6 = .ok (.invokestatic 66, 3) := by decide +kernel
theorem dX8_learn_9 : decode cX8_learn 9 = .ok (.ifCond .eq 23, 3) := by decide +kernel
theorem dX8_learn_12 : decode cX8_learn 12 = .ok (.iload_n 3, 1) := by decide +kernel
theorem dX8_learn_13 : decode cX8_learn 13 = .ok (.i2l, 1) := by decide +kernel
theorem dX8_learn_14 : decode cX8_learn 14 = .ok (.lconst 1, 1) := by decide +kernel
theorem dX8_learn_15 : decode cX8_learn 15 = .ok (.ldc2_w 179, 3) := by decide +kernel
theorem dX8_learn_18 : decode cX8_learn 18 = .ok (.invokestatic 62, 3) := by decide +kernel
theorem dX8_learn_21 : decode cX8_learn 21 = .ok (.ifCond .eq 11, 3) := by decide +kernel
theorem dX8_learn_24 : decode cX8_learn 24 = .ok (.iload 4, 2) := by decide +kernel
theorem dX8_learn_26 : decode cX8_learn 26 = .ok (.invokestatic 100, 3) := by decide +kernel
theorem dX8_learn_29 : decode cX8_learn 29 = .ok (.ifCond .ne 6, 3) := by decide +kernel
theorem dX8_learn_32 : decode cX8_learn 32 = .ok (.ldc 72, 2) := by decide +kernel
theorem dX8_learn_34 : decode cX8_learn 34 = .ok (.ireturn, 1) := by decide +kernel
theorem dX8_learn_35 : decode cX8_learn 35 = .ok (.aload_n 0, 1) := by decide +kernel
theorem dX8_learn_36 : decode cX8_learn 36 = .ok (.getfield 95, 3) := by decide +kernel
theorem dX8_learn_39 : decode cX8_learn 39 = .ok (.bipush 12, 2) := by decide +kernel
theorem dX8_learn_41 : decode cX8_learn 41 = .ok (.if_icmp .ne 6, 3) := by decide +kernel
theorem dX8_learn_44 : decode cX8_learn 44 = .ok (.ldc 103, 2) := by decide +kernel
theorem dX8_learn_46 : decode cX8_learn 46 = .ok (.ireturn, 1) := by decide +kernel
theorem dX8_learn_47 : decode cX8_learn 47 = .ok (.aload_n 0, 1) := by decide +kernel
theorem dX8_learn_48 : decode cX8_learn 48 = .ok (.getfield 56, 3) := by decide +kernel
theorem dX8_learn_51 : decode cX8_learn 51 = .ok (.istore 5, 2) := by decide +kernel
theorem dX8_learn_53 : decode cX8_learn 53 = .ok (.aload_n 0, 1) := by decide +kernel
theorem dX8_learn_54 : decode cX8_learn 54 = .ok (.iload_n 1, 1) := by decide +kernel
theorem dX8_learn_55 : decode cX8_learn 55 = .ok (.iload_n 2, 1) := by decide +kernel
theorem dX8_learn_56 : decode cX8_learn 56 = .ok (.iload_n 3, 1) := by decide +kernel
theorem dX8_learn_57 : decode cX8_learn 57 = .ok (.invokevirtual 187, 3) := by decide +kernel
theorem dX8_learn_60 : decode cX8_learn 60 = .ok (.istore 6, 2) := by decide +kernel
theorem dX8_learn_62 : decode cX8_learn 62 = .ok (.iload 6, 2) := by decide +kernel
theorem dX8_learn_64 : decode cX8_learn 64 = .ok (.ifCond .ge 6, 3) := by decide +kernel
theorem dX8_learn_67 : decode cX8_learn 67 = .ok (.iload 6, 2) := by decide +kernel
theorem dX8_learn_69 : decode cX8_learn 69 = .ok (.ireturn, 1) := by decide +kernel
theorem dX8_learn_70 : decode cX8_learn 70 = .ok (.aload_n 0, 1) := by decide +kernel
theorem dX8_learn_71 : decode cX8_learn 71 = .ok (.getfield 46, 3) := by decide +kernel
theorem dX8_learn_74 : decode cX8_learn 74 = .ok (.iconst 0, 1) := by decide +kernel
theorem dX8_learn_75 : decode cX8_learn 75 = .ok (.iaload, 1) := by decide +kernel
theorem dX8_learn_76 : decode cX8_learn 76 = .ok (.aload_n 0, 1) := by decide +kernel
theorem dX8_learn_77 : decode cX8_learn 77 = .ok (.getfield 46, 3) := by decide +kernel
theorem dX8_learn_80 : decode cX8_learn 80 = .ok (.iconst 1, 1) := by decide +kernel
theorem dX8_learn_81 : decode cX8_learn 81 = .ok (.iaload, 1) := by decide +kernel
theorem dX8_learn_82 : decode cX8_learn 82 = .ok (.iadd, 1) := by decide +kernel
theorem dX8_learn_83 : decode cX8_learn 83 = .ok (.aload_n 0, 1) := by decide +kernel
theorem dX8_learn_84 : decode cX8_learn 84 = .ok (.getfield 46, 3) := by decide +kernel
theorem dX8_learn_87 : decode cX8_learn 87 = .ok (.iconst 2, 1) := by decide +kernel
theorem dX8_learn_88 : decode cX8_learn 88 = .ok (.iaload, 1) := by decide +kernel
theorem dX8_learn_89 : decode cX8_learn 89 = .ok (.iadd, 1) := by decide +kernel
theorem dX8_learn_90 : decode cX8_learn 90 = .ok (.aload_n 0, 1) := by decide +kernel
theorem dX8_learn_91 : decode cX8_learn 91 = .ok (.getfield 46, 3) := by decide +kernel
theorem dX8_learn_94 : decode cX8_learn 94 = .ok (.iconst 3, 1) := by decide +kernel
theorem dX8_learn_95 : decode cX8_learn 95 = .ok (.iaload, 1) := by decide +kernel
theorem dX8_learn_96 : decode cX8_learn 96 = .ok (.iadd, 1) := by decide +kernel
theorem dX8_learn_97 : decode cX8_learn 97 = .ok (.aload_n 0, 1) := by decide +kernel
theorem dX8_learn_98 : decode cX8_learn 98 = .ok (.getfield 46, 3) := by decide +kernel
theorem dX8_learn_101 : decode cX8_learn 101 = .ok (.iconst 4, 1) := by decide +kernel
theorem dX8_learn_102 : decode cX8_learn 102 = .ok (.iaload, 1) := by decide +kernel
theorem dX8_learn_103 : decode cX8_learn 103 = .ok (.iadd, 1) := by decide +kernel
theorem dX8_learn_104 : decode cX8_learn 104 = .ok (.aload_n 0, 1) := by decide +kernel
theorem dX8_learn_105 : decode cX8_learn 105 = .ok (.getfield 46, 3) := by decide +kernel
theorem dX8_learn_108 : decode cX8_learn 108 = .ok (.iconst 5, 1) := by decide +kernel
theorem dX8_learn_109 : decode cX8_learn 109 = .ok (.iaload, 1) := by decide +kernel
theorem dX8_learn_110 : decode cX8_learn 110 = .ok (.iadd, 1) := by decide +kernel
theorem dX8_learn_111 : decode cX8_learn 111 = .ok (.istore 7, 2) := by decide +kernel
theorem dX8_learn_113 : decode cX8_learn 113 = .ok (.iload 7, 2) := by decide +kernel
theorem dX8_learn_115 : decode cX8_learn 115 = .ok (.ifCond .ne 12, 3) := by decide +kernel
theorem dX8_learn_118 : decode cX8_learn 118 = .ok (.aload_n 0, 1) := by decide +kernel
theorem dX8_learn_119 : decode cX8_learn 119 = .ok (.iload 5, 2) := by decide +kernel
theorem dX8_learn_121 : decode cX8_learn 121 = .ok (.putfield 56, 3) := by decide +kernel
theorem dX8_learn_124 : decode cX8_learn 124 = .ok (.ldc 113, 2) := by decide +kernel
theorem dX8_learn_126 : decode cX8_learn 126 = .ok (.ireturn, 1) := by decide +kernel
theorem dX8_learn_127 : decode cX8_learn 127 = .ok (.iconst 1, 1) := by decide +kernel
theorem dX8_learn_128 : decode cX8_learn 128 = .ok (.istore 8, 2) := by decide +kernel
theorem dX8_learn_130 : decode cX8_learn 130 = .ok (.iload 8, 2) := by decide +kernel
theorem dX8_learn_132 : decode cX8_learn 132 = .ok (.bipush 6, 2) := by decide +kernel
theorem dX8_learn_134 : decode cX8_learn 134 = .ok (.if_icmp .ge 38, 3) := by decide +kernel
theorem dX8_learn_137 : decode cX8_learn 137 = .ok (.aload_n 0, 1) := by decide +kernel
theorem dX8_learn_138 : decode cX8_learn 138 = .ok (.getfield 19, 3) := by decide +kernel
theorem dX8_learn_141 : decode cX8_learn 141 = .ok (.bipush 7, 2) := by decide +kernel
theorem dX8_learn_143 : decode cX8_learn 143 = .ok (.aload_n 0, 1) := by decide +kernel
theorem dX8_learn_144 : decode cX8_learn 144 = .ok (.getfield 95, 3) := by decide +kernel
theorem dX8_learn_147 : decode cX8_learn 147 = .ok (.imul, 1) := by decide +kernel
theorem dX8_learn_148 : decode cX8_learn 148 = .ok (.iload 8, 2) := by decide +kernel
theorem dX8_learn_150 : decode cX8_learn 150 = .ok (.iadd, 1) := by decide +kernel
theorem dX8_learn_151 : decode cX8_learn 151 = .ok (.aload_n 0, 1) := by decide +kernel
theorem dX8_learn_152 : decode cX8_learn 152 = .ok (.getfield 46, 3) := by decide +kernel
theorem dX8_learn_155 : decode cX8_learn 155 = .ok (.iload 8, 2) := by decide +kernel
theorem dX8_learn_157 : decode cX8_learn 157 = .ok (.iaload, 1) := by decide +kernel
theorem dX8_learn_158 : decode cX8_learn 158 = .ok (.sipush 1000, 3) := by decide +kernel
theorem dX8_learn_161 : decode cX8_learn 161 = .ok (.imul, 1) := by decide +kernel
theorem dX8_learn_162 : decode cX8_learn 162 = .ok (.iload 7, 2) := by decide +kernel
theorem dX8_learn_164 : decode cX8_learn 164 = .ok (.idiv, 1) := by decide +kernel
theorem dX8_learn_165 : decode cX8_learn 165 = .ok (.iastore, 1) := by decide +kernel
theorem dX8_learn_166 : decode cX8_learn 166 = .ok (.iinc 8 1, 3) := by decide +kernel
theorem dX8_learn_169 : decode cX8_learn 169 = .ok (.goto (-39), 3) := by decide +kernel
theorem dX8_learn_172 : decode cX8_learn 172 = .ok (.aload_n 0, 1) := by decide +kernel
theorem dX8_learn_173 : decode cX8_learn 173 = .ok (.getfield 19, 3) := by decide +kernel
theorem dX8_learn_176 : decode cX8_learn 176 = .ok (.bipush 7, 2) := by decide +kernel
theorem dX8_learn_178 : decode cX8_learn 178 = .ok (.aload_n 0, 1) := by decide +kernel
theorem dX8_learn_179 : decode cX8_learn 179 = .ok (.getfield 95, 3) := by decide +kernel
theorem dX8_learn_182 : decode cX8_learn 182 = .ok (.imul, 1) := by decide +kernel
theorem dX8_learn_183 : decode cX8_learn 183 = .ok (.bipush 6, 2) := by decide +kernel
theorem dX8_learn_185 : decode cX8_learn 185 = .ok (.iadd, 1) := by decide +kernel
theorem dX8_learn_186 : decode cX8_learn 186 = .ok (.iload 4, 2) := by decide +kernel
theorem dX8_learn_188 : decode cX8_learn 188 = .ok (.iastore, 1) := by decide +kernel
theorem dX8_learn_189 : decode cX8_learn 189 = .ok (.aload_n 0, 1) := by decide +kernel
theorem dX8_learn_190 : decode cX8_learn 190 = .ok (.aload_n 0, 1) := by decide +kernel
theorem dX8_learn_191 : decode cX8_learn 191 = .ok (.getfield 95, 3) := by decide +kernel
theorem dX8_learn_194 : decode cX8_learn 194 = .ok (.invokevirtual 104, 3) := by decide +kernel
theorem dX8_learn_197 : decode cX8_learn 197 = .ok (.aload_n 0, 1) := by decide +kernel
theorem dX8_learn_198 : decode cX8_learn 198 = .ok (.dup, 1) := by decide +kernel
theorem dX8_learn_199 : decode cX8_learn 199 = .ok (.getfield 95, 3) := by decide +kernel
theorem dX8_learn_202 : decode cX8_learn 202 = .ok (.iconst 1, 1) := by decide +kernel
theorem dX8_learn_203 : decode cX8_learn 203 = .ok (.iadd, 1) := by decide +kernel
theorem dX8_learn_204 : decode cX8_learn 204 = .ok (.putfield 95, 3) := by decide +kernel
theorem dX8_learn_207 : decode cX8_learn 207 = .ok (.aload_n 0, 1) := by decide +kernel
theorem dX8_learn_208 : decode cX8_learn 208 = .ok (.getfield 95, 3) := by decide +kernel
theorem dX8_learn_211 : decode cX8_learn 211 = .ok (.iconst 1, 1) := by decide +kernel
theorem dX8_learn_212 : decode cX8_learn 212 = .ok (.isub, 1) := by decide +kernel
theorem dX8_learn_213 : decode cX8_learn 213 = .ok (.ireturn, 1) := by decide +kernel
theorem dX8_kindOf_0 : decode cX8_kindOf 0 = .ok (.bipush 7, 2) := by decide +kernel
theorem dX8_kindOf_2 : decode cX8_kindOf 2 = .ok (.iload_n 1, 1) := by decide +kernel
theorem dX8_kindOf_3 : decode cX8_kindOf 3 = .ok (.imul, 1) := by decide +kernel
theorem dX8_kindOf_4 : decode cX8_kindOf 4 = .ok (.istore_n 2, 1) := by decide +kernel
theorem dX8_kindOf_5 : decode cX8_kindOf 5 = .ok (.aload_n 0, 1) := by decide +kernel
theorem dX8_kindOf_6 : decode cX8_kindOf 6 = .ok (.getfield 19, 3) := by decide +kernel
theorem dX8_kindOf_9 : decode cX8_kindOf 9 = .ok (.iload_n 2, 1) := by decide +kernel
theorem dX8_kindOf_10 : decode cX8_kindOf 10 = .ok (.iaload, 1) := by decide +kernel
theorem dX8_kindOf_11 : decode cX8_kindOf 11 = .ok (.sipush 650, 3) := by decide +kernel
theorem dX8_kindOf_14 : decode cX8_kindOf 14 = .ok (.if_icmp .gt 33, 3) := by decide +kernel
theorem dX8_kindOf_17 : decode cX8_kindOf 17 = .ok (.aload_n 0, 1) := by decide +kernel
theorem dX8_kindOf_18 : decode cX8_kindOf 18 = .ok (.getfield 19, 3) := by decide +kernel
theorem dX8_kindOf_21 : decode cX8_kindOf 21 = .ok (.iload_n 2, 1) := by decide +kernel
theorem dX8_kindOf_22 : decode cX8_kindOf 22 = .ok (.iconst 4, 1) := by decide +kernel
theorem dX8_kindOf_23 : decode cX8_kindOf 23 = .ok (.iadd, 1) := by decide +kernel
theorem dX8_kindOf_24 : decode cX8_kindOf 24 = .ok (.iaload, 1) := by decide +kernel
theorem dX8_kindOf_25 : decode cX8_kindOf 25 = .ok (.aload_n 0, 1) := by decide +kernel
theorem dX8_kindOf_26 : decode cX8_kindOf 26 = .ok (.getfield 19, 3) := by decide +kernel
theorem dX8_kindOf_29 : decode cX8_kindOf 29 = .ok (.iload_n 2, 1) := by decide +kernel
theorem dX8_kindOf_30 : decode cX8_kindOf 30 = .ok (.iconst 5, 1) := by decide +kernel
theorem dX8_kindOf_31 : decode cX8_kindOf 31 = .ok (.iadd, 1) := by decide +kernel
theorem dX8_kindOf_32 : decode cX8_kindOf 32 = .ok (.iaload, 1) := by decide +kernel
theorem dX8_kindOf_33 : decode cX8_kindOf 33 = .ok (.iadd, 1) := by decide +kernel
theorem dX8_kindOf_34 : decode cX8_kindOf 34 = .ok (.bipush 60, 2) := by decide +kernel
theorem dX8_kindOf_36 : decode cX8_kindOf 36 = .ok (.if_icmp .lt 7, 3) := by decide +kernel
theorem dX8_kindOf_39 : decode cX8_kindOf 39 = .ok (.iconst 2, 1) := by decide +kernel
theorem dX8_kindOf_40 : decode cX8_kindOf 40 = .ok (.goto 27, 3) := by decide +kernel
theorem dX8_kindOf_43 : decode cX8_kindOf 43 = .ok (.iconst 1, 1) := by decide +kernel
theorem dX8_kindOf_44 : decode cX8_kindOf 44 = .ok (.goto 23, 3) := by decide +kernel
theorem dX8_kindOf_47 : decode cX8_kindOf 47 = .ok (.aload_n 0, 1) := by decide +kernel
theorem dX8_kindOf_48 : decode cX8_kindOf 48 = .ok (.getfield 19, 3) := by decide +kernel
theorem dX8_kindOf_51 : decode cX8_kindOf 51 = .ok (.iload_n 2, 1) := by decide +kernel
theorem dX8_kindOf_52 : decode cX8_kindOf 52 = .ok (.bipush 6, 2) := by decide +kernel
theorem dX8_kindOf_54 : decode cX8_kindOf 54 = .ok (.iadd, 1) := by decide +kernel
theorem dX8_kindOf_55 : decode cX8_kindOf 55 = .ok (.iaload, 1) := by decide +kernel
theorem dX8_kindOf_56 : decode cX8_kindOf 56 = .ok (.sipush 700, 3) := by decide +kernel
theorem dX8_kindOf_59 : decode cX8_kindOf 59 = .ok (.if_icmp .lt 7, 3) := by decide +kernel
theorem dX8_kindOf_62 : decode cX8_kindOf 62 = .ok (.iconst 3, 1) := by decide +kernel
theorem dX8_kindOf_63 : decode cX8_kindOf 63 = .ok (.goto 4, 3) := by decide +kernel
theorem dX8_kindOf_66 : decode cX8_kindOf 66 = .ok (.iconst 0, 1) := by decide +kernel
theorem dX8_kindOf_67 : decode cX8_kindOf 67 = .ok (.ireturn, 1) := by decide +kernel
theorem dX8_isOf_0 : decode cX8_isOf 0 = .ok (.iload_n 1, 1) := by decide +kernel
theorem dX8_isOf_1 : decode cX8_isOf 1 = .ok (.ifCond .eq 18, 3) := by decide +kernel
theorem dX8_isOf_4 : decode cX8_isOf 4 = .ok (.iload_n 0, 1) := by decide +kernel
theorem dX8_isOf_5 : decode cX8_isOf 5 = .ok (.iload_n 1, 1) := by decide +kernel
theorem dX8_isOf_6 : decode cX8_isOf 6 = .ok (.if_icmp .eq 13, 3) := by decide +kernel
theorem dX8_isOf_9 : decode cX8_isOf 9 = .ok (.iload_n 1, 1) := by decide +kernel
theorem dX8_isOf_10 : decode cX8_isOf 10 = .ok (.iconst 1, 1) := by decide +kernel
theorem dX8_isOf_11 : decode cX8_isOf 11 = .ok (.if_icmp .ne 12, 3) := by decide +kernel
theorem dX8_isOf_14 : decode cX8_isOf 14 = .ok (.iload_n 0, 1) := by decide +kernel
theorem dX8_isOf_15 : decode cX8_isOf 15 = .ok (.iconst 2, 1) := by decide +kernel
theorem dX8_isOf_16 : decode cX8_isOf 16 = .ok (.if_icmp .ne 7, 3) := by decide +kernel
theorem dX8_isOf_19 : decode cX8_isOf 19 = .ok (.iconst 1, 1) := by decide +kernel
theorem dX8_isOf_20 : decode cX8_isOf 20 = .ok (.goto 4, 3) := by decide +kernel
theorem dX8_isOf_23 : decode cX8_isOf 23 = .ok (.iconst 0, 1) := by decide +kernel
theorem dX8_isOf_24 : decode cX8_isOf 24 = .ok (.ireturn, 1) := by decide +kernel
set_option maxRecDepth 20000 in
theorem ggX8_kind_X8_isStriker : GoodIn wsX8_kind wsX8_isStriker := goodIn_r _ [7, 8, 9, 10, 6, 11, 17, 18, 19, 20, 21, 22, 23, 24, 25, 26, 27, 28, 29, 30, 31, 32, 33, 34, 35, 36, 37, 38] (by decide +kernel) (by decide +kernel)
set_option maxRecDepth 20000 in
theorem gX8_kind_X8_isStriker : GoodIn wsX8_kind (wsV RX8 108 RX8 yX8_isStriker wsX8_isStriker) := goodIn_app (goodIn_of _ (by decide +kernel)) ggX8_kind_X8_isStriker
set_option maxRecDepth 20000 in
theorem ggX8_kind_X8_kindOf : GoodIn wsX8_kind wsX8_kindOf := goodIn_r _ [15, 16, 17, 18, 19, 20, 21, 22, 23, 24, 25, 26, 27, 28, 29, 30, 31, 32, 33, 34, 35, 36, 37, 38] (by decide +kernel) (by decide +kernel)
set_option maxRecDepth 20000 in
theorem gX8_kind_X8_kindOf : GoodIn wsX8_kind (wsV RX8 191 RX8 yX8_kindOf wsX8_kindOf) := goodIn_app (goodIn_of _ (by decide +kernel)) ggX8_kind_X8_kindOf
theorem dX8_kind_0 : decode cX8_kind 0 = .ok (.aload_n 0, 1) := by decide +kernel
theorem dX8_kind_1 : decode cX8_kind 1 = .ok (.iconst 0, 1) := by decide +kernel
theorem dX8_kind_2 : decode cX8_kind 2 = .ok (.putfield 52, 3) := by decide +kernel
theorem dX8_kind_5 : decode cX8_kind 5 = .ok (.aload_n 0, 1) := by decide +kernel
theorem dX8_kind_6 : decode cX8_kind 6 = .ok (.iload_n 1, 1) := by decide +kernel
theorem dX8_kind_7 : decode cX8_kind 7 = .ok (.invokevirtual 108, 3) := by decide +kernel
theorem dX8_kind_10 : decode cX8_kind 10 = .ok (.ifCond .eq 11, 3) := by decide +kernel
theorem dX8_kind_13 : decode cX8_kind 13 = .ok (.aload_n 0, 1) := by decide +kernel
theorem dX8_kind_14 : decode cX8_kind 14 = .ok (.iload_n 1, 1) := by decide +kernel
theorem dX8_kind_15 : decode cX8_kind 15 = .ok (.invokevirtual 191, 3) := by decide +kernel
theorem dX8_kind_18 : decode cX8_kind 18 = .ok (.goto 5, 3) := by decide +kernel
theorem dX8_kind_21 : decode cX8_kind 21 = .ok (.ldc 72, 2) := by decide +kernel
theorem dX8_kind_23 : decode cX8_kind 23 = .ok (.ireturn, 1) := by decide +kernel
set_option maxRecDepth 20000 in
theorem ggX8_as_X8_isStriker : GoodIn wsX8_as wsX8_isStriker := goodIn_r _ [10, 11, 12, 13, 9, 14, 27, 28, 29, 30, 31, 32, 33, 34, 35, 36, 37, 38, 39, 40, 41, 42, 43, 44, 45, 46, 47, 48] (by decide +kernel) (by decide +kernel)
set_option maxRecDepth 20000 in
theorem gX8_as_X8_isStriker : GoodIn wsX8_as (wsV RX8 108 RX8 yX8_isStriker wsX8_isStriker) := goodIn_app (goodIn_of _ (by decide +kernel)) ggX8_as_X8_isStriker
set_option maxRecDepth 20000 in
theorem ggX8_as_X8_in : GoodIn wsX8_as wsX8_in := goodIn_r _ [14] (by decide +kernel) (by decide +kernel)
set_option maxRecDepth 20000 in
theorem gX8_as_X8_in : GoodIn wsX8_as (va_wsS RX8 62 yX8_in wsX8_in) := goodIn_app (goodIn_of _ (by decide +kernel)) ggX8_as_X8_in
set_option maxRecDepth 20000 in
theorem ggX8_as_X8_kindOf : GoodIn wsX8_as wsX8_kindOf := goodIn_r _ [18, 5, 27, 28, 29, 30, 31, 32, 33, 34, 35, 36, 37, 38, 39, 40, 41, 42, 43, 44, 45, 46, 47, 48] (by decide +kernel) (by decide +kernel)
set_option maxRecDepth 20000 in
theorem gX8_as_X8_kindOf : GoodIn wsX8_as (wsV RX8 191 RX8 yX8_kindOf wsX8_kindOf) := goodIn_app (goodIn_of _ (by decide +kernel)) ggX8_as_X8_kindOf
set_option maxRecDepth 20000 in
theorem ggX8_as_X8_isOf : GoodIn wsX8_as wsX8_isOf := goodIn_r _ [21] (by decide +kernel) (by decide +kernel)
set_option maxRecDepth 20000 in
theorem gX8_as_X8_isOf : GoodIn wsX8_as (va_wsS RX8 194 yX8_isOf wsX8_isOf) := goodIn_app (goodIn_of _ (by decide +kernel)) ggX8_as_X8_isOf
set_option maxRecDepth 20000 in
theorem ggX8_as_X8_found : GoodIn wsX8_as wsX8_found := goodIn_r _ [25, 4, 26, 27, 28, 29, 30, 31, 32, 33, 34, 35, 36, 37, 38, 39, 40, 41, 42, 43, 44, 45, 46, 47, 48] (by decide +kernel) (by decide +kernel)
set_option maxRecDepth 20000 in
theorem gX8_as_X8_found : GoodIn wsX8_as (wsV RX8 73 RX8 yX8_found wsX8_found) := goodIn_app (goodIn_of _ (by decide +kernel)) ggX8_as_X8_found
theorem dX8_as_0 : decode cX8_as 0 = .ok (.aload_n 0, 1) := by decide +kernel
theorem dX8_as_1 : decode cX8_as 1 = .ok (.iconst 0, 1) := by decide +kernel
theorem dX8_as_2 : decode cX8_as 2 = .ok (.putfield 52, 3) := by decide +kernel
theorem dX8_as_5 : decode cX8_as 5 = .ok (.aload_n 0, 1) := by decide +kernel
theorem dX8_as_6 : decode cX8_as 6 = .ok (.iload_n 1, 1) := by decide +kernel
theorem dX8_as_7 : decode cX8_as 7 = .ok (.invokevirtual 108, 3) := by decide +kernel
theorem dX8_as_10 : decode cX8_as 10 = .ok (.ifCond .eq 15, 3) := by decide +kernel
theorem dX8_as_13 : decode cX8_as 13 = .ok (.iload_n 2, 1) := by decide +kernel
theorem dX8_as_14 : decode cX8_as 14 = .ok (.i2l, 1) := by decide +kernel
theorem dX8_as_15 : decode cX8_as 15 = .ok (.lconst 0, 1) := by decide +kernel
theorem dX8_as_16 : decode cX8_as 16 = .ok (.ldc2_w 181, 3) := by decide +kernel
theorem dX8_as_19 : decode cX8_as 19 = .ok (.invokestatic 62, 3) := by decide +kernel
theorem dX8_as_22 : decode cX8_as 22 = .ok (.ifCond .ne 6, 3) := by decide +kernel
theorem dX8_as_25 : decode cX8_as 25 = .ok (.ldc 72, 2) := by decide +kernel
theorem dX8_as_27 : decode cX8_as 27 = .ok (.ireturn, 1) := by decide +kernel
theorem dX8_as_28 : decode cX8_as 28 = .ok (.aload_n 0, 1) := by decide +kernel
theorem dX8_as_29 : decode cX8_as 29 = .ok (.iconst 0, 1) := by decide +kernel
theorem dX8_as_30 : decode cX8_as 30 = .ok (.putfield 56, 3) := by decide +kernel
theorem dX8_as_33 : decode cX8_as 33 = .ok (.aload_n 0, 1) := by decide +kernel
theorem dX8_as_34 : decode cX8_as 34 = .ok (.iload_n 1, 1) := by decide +kernel
theorem dX8_as_35 : decode cX8_as 35 = .ok (.invokevirtual 191, 3) := by decide +kernel
theorem dX8_as_38 : decode cX8_as 38 = .ok (.iload_n 2, 1) := by decide +kernel
theorem dX8_as_39 : decode cX8_as 39 = .ok (.invokestatic 194, 3) := by decide +kernel
theorem dX8_as_42 : decode cX8_as 42 = .ok (.ifCond .eq 15, 3) := by decide +kernel
theorem dX8_as_45 : decode cX8_as 45 = .ok (.aload_n 0, 1) := by decide +kernel
theorem dX8_as_46 : decode cX8_as 46 = .ok (.getfield 19, 3) := by decide +kernel
theorem dX8_as_49 : decode cX8_as 49 = .ok (.bipush 7, 2) := by decide +kernel
theorem dX8_as_51 : decode cX8_as 51 = .ok (.iload_n 1, 1) := by decide +kernel
theorem dX8_as_52 : decode cX8_as 52 = .ok (.imul, 1) := by decide +kernel
theorem dX8_as_53 : decode cX8_as 53 = .ok (.iaload, 1) := by decide +kernel
theorem dX8_as_54 : decode cX8_as 54 = .ok (.goto 8, 3) := by decide +kernel
theorem dX8_as_57 : decode cX8_as 57 = .ok (.aload_n 0, 1) := by decide +kernel
theorem dX8_as_58 : decode cX8_as 58 = .ok (.iconst 3, 1) := by decide +kernel
theorem dX8_as_59 : decode cX8_as 59 = .ok (.invokevirtual 73, 3) := by decide +kernel
theorem dX8_as_62 : decode cX8_as 62 = .ok (.ireturn, 1) := by decide +kernel
theorem dX8_began_0 : decode cX8_began 0 = .ok (.aload_n 0, 1) := by decide +kernel
theorem dX8_began_1 : decode cX8_began 1 = .ok (.getfield 197, 3) := by decide +kernel
theorem dX8_began_4 : decode cX8_began 4 = .ok (.bipush 16, 2) := by decide +kernel
theorem dX8_began_6 : decode cX8_began 6 = .ok (.if_icmp .ge 23, 3) := by decide +kernel
theorem dX8_began_9 : decode cX8_began 9 = .ok (.aload_n 0, 1) := by decide +kernel
theorem dX8_began_10 : decode cX8_began 10 = .ok (.getfield 49, 3) := by decide +kernel
theorem dX8_began_13 : decode cX8_began 13 = .ok (.aload_n 0, 1) := by decide +kernel
theorem dX8_began_14 : decode cX8_began 14 = .ok (.getfield 197, 3) := by decide +kernel
theorem dX8_began_17 : decode cX8_began 17 = .ok (.iload_n 1, 1) := by decide +kernel
theorem dX8_began_18 : decode cX8_began 18 = .ok (.iastore, 1) := by decide +kernel
theorem dX8_began_19 : decode cX8_began 19 = .ok (.aload_n 0, 1) := by decide +kernel
theorem dX8_began_20 : decode cX8_began 20 = .ok (.dup, 1) := by decide +kernel
theorem dX8_began_21 : decode cX8_began 21 = .ok (.getfield 197, 3) := by decide +kernel
theorem dX8_began_24 : decode cX8_began 24 = .ok (.iconst 1, 1) := by decide +kernel
theorem dX8_began_25 : decode cX8_began 25 = .ok (.iadd, 1) := by decide +kernel
theorem dX8_began_26 : decode cX8_began 26 = .ok (.putfield 197, 3) := by decide +kernel
theorem dX8_began_29 : decode cX8_began 29 = .ok (.return_, 1) := by decide +kernel
set_option maxRecDepth 20000 in
theorem ggX8_safeSize_X8_began : GoodIn wsX8_safeSize wsX8_began := goodIn_r _ [6, 7, 8, 9, 10, 11, 12, 13, 14, 15, 16, 17, 18, 19, 20, 21, 22, 23, 24, 25, 26, 27, 28, 29, 30] (by decide +kernel) (by decide +kernel)
set_option maxRecDepth 20000 in
theorem gX8_safeSize_X8_began : GoodIn wsX8_safeSize (wsV RX8 200 RX8 yX8_began wsX8_began) := goodIn_app (goodIn_of _ (by decide +kernel)) ggX8_safeSize_X8_began
theorem dX8_safeSize_0 : decode cX8_safeSize 0 = .ok (.iload_n 2, 1) := by decide +kernel
theorem dX8_safeSize_1 : decode cX8_safeSize 1 = .ok (.iconst 2, 1) := by decide +kernel
theorem dX8_safeSize_2 : decode cX8_safeSize 2 = .ok (.if_icmp .ne 9, 3) := by decide +kernel
theorem dX8_safeSize_5 : decode cX8_safeSize 5 = .ok (.aload_n 0, 1) := by decide +kernel
theorem dX8_safeSize_6 : decode cX8_safeSize 6 = .ok (.bipush 12, 2) := by decide +kernel
theorem dX8_safeSize_8 : decode cX8_safeSize 8 = .ok (.invokevirtual 200, 3) := by decide +kernel
theorem dX8_safeSize_11 : decode cX8_safeSize 11 = .ok (.aload_n 0, 1) := by decide +kernel
theorem dX8_safeSize_12 : decode cX8_safeSize 12 = .ok (.bipush 11, 2) := by decide +kernel
theorem dX8_safeSize_14 : decode cX8_safeSize 14 = .ok (.invokevirtual 200, 3) := by decide +kernel
theorem dX8_safeSize_17 : decode cX8_safeSize 17 = .ok (.aload_n 0, 1) := by decide +kernel
theorem dX8_safeSize_18 : decode cX8_safeSize 18 = .ok (.bipush 10, 2) := by decide +kernel
theorem dX8_safeSize_20 : decode cX8_safeSize 20 = .ok (.invokevirtual 200, 3) := by decide +kernel
theorem dX8_safeSize_23 : decode cX8_safeSize 23 = .ok (.aload_n 0, 1) := by decide +kernel
theorem dX8_safeSize_24 : decode cX8_safeSize 24 = .ok (.getfield 19, 3) := by decide +kernel
theorem dX8_safeSize_27 : decode cX8_safeSize 27 = .ok (.bipush 7, 2) := by decide +kernel
theorem dX8_safeSize_29 : decode cX8_safeSize 29 = .ok (.iload_n 1, 1) := by decide +kernel
theorem dX8_safeSize_30 : decode cX8_safeSize 30 = .ok (.imul, 1) := by decide +kernel
theorem dX8_safeSize_31 : decode cX8_safeSize 31 = .ok (.bipush 6, 2) := by decide +kernel
theorem dX8_safeSize_33 : decode cX8_safeSize 33 = .ok (.iadd, 1) := by decide +kernel
theorem dX8_safeSize_34 : decode cX8_safeSize 34 = .ok (.iaload, 1) := by decide +kernel
theorem dX8_safeSize_35 : decode cX8_safeSize 35 = .ok (.sipush 1000, 3) := by decide +kernel
theorem dX8_safeSize_38 : decode cX8_safeSize 38 = .ok (.iadd, 1) := by decide +kernel
theorem dX8_safeSize_39 : decode cX8_safeSize 39 = .ok (.aload_n 0, 1) := by decide +kernel
theorem dX8_safeSize_40 : decode cX8_safeSize 40 = .ok (.getfield 19, 3) := by decide +kernel
theorem dX8_safeSize_43 : decode cX8_safeSize 43 = .ok (.bipush 7, 2) := by decide +kernel
theorem dX8_safeSize_45 : decode cX8_safeSize 45 = .ok (.iload_n 1, 1) := by decide +kernel
theorem dX8_safeSize_46 : decode cX8_safeSize 46 = .ok (.imul, 1) := by decide +kernel
theorem dX8_safeSize_47 : decode cX8_safeSize 47 = .ok (.iaload, 1) := by decide +kernel
theorem dX8_safeSize_48 : decode cX8_safeSize 48 = .ok (.isub, 1) := by decide +kernel
theorem dX8_safeSize_49 : decode cX8_safeSize 49 = .ok (.istore_n 3, 1) := by decide +kernel
theorem dX8_safeSize_50 : decode cX8_safeSize 50 = .ok (.iload_n 2, 1) := by decide +kernel
theorem dX8_safeSize_51 : decode cX8_safeSize 51 = .ok (.iconst 2, 1) := by decide +kernel
theorem dX8_safeSize_52 : decode cX8_safeSize 52 = .ok (.if_icmp .ne 9, 3) := by decide +kernel
theorem dX8_safeSize_55 : decode cX8_safeSize 55 = .ok (.iconst 2, 1) := by decide +kernel
theorem dX8_safeSize_56 : decode cX8_safeSize 56 = .ok (.iload_n 3, 1) := by decide +kernel
theorem dX8_safeSize_57 : decode cX8_safeSize 57 = .ok (.imul, 1) := by decide +kernel
theorem dX8_safeSize_58 : decode cX8_safeSize 58 = .ok (.goto 4, 3) := by decide +kernel
theorem dX8_safeSize_61 : decode cX8_safeSize 61 = .ok (.iload_n 3, 1) := by decide +kernel
theorem dX8_safeSize_62 : decode cX8_safeSize 62 = .ok (.ireturn, 1) := by decide +kernel
set_option maxRecDepth 20000 in
theorem ggX8_markOf_X8_began : GoodIn wsX8_markOf wsX8_began := goodIn_r _ [6, 7, 8, 16, 17, 18, 19, 20, 21, 22, 23, 24, 25, 26, 27, 28, 29, 30, 31, 32, 33, 34, 35, 36, 37] (by decide +kernel) (by decide +kernel)
set_option maxRecDepth 20000 in
theorem gX8_markOf_X8_began : GoodIn wsX8_markOf (wsV RX8 200 RX8 yX8_began wsX8_began) := goodIn_app (goodIn_of _ (by decide +kernel)) ggX8_markOf_X8_began
set_option maxRecDepth 20000 in
theorem ggX8_markOf_X8_isOf : GoodIn wsX8_markOf wsX8_isOf := goodIn_r _ [11] (by decide +kernel) (by decide +kernel)
set_option maxRecDepth 20000 in
theorem gX8_markOf_X8_isOf : GoodIn wsX8_markOf (va_wsS RX8 194 yX8_isOf wsX8_isOf) := goodIn_app (goodIn_of _ (by decide +kernel)) ggX8_markOf_X8_isOf
set_option maxRecDepth 20000 in
theorem ggX8_markOf_X8_safeSize : GoodIn wsX8_markOf wsX8_safeSize := goodIn_r _ [15, 1, 2, 3, 4, 5, 6, 7, 8, 16, 17, 18, 19, 20, 21, 22, 23, 24, 25, 26, 27, 28, 29, 30, 31, 32, 33, 34, 35, 36, 37] (by decide +kernel) (by decide +kernel)
set_option maxRecDepth 20000 in
theorem gX8_markOf_X8_safeSize : GoodIn wsX8_markOf (wsV RX8 203 RX8 yX8_safeSize wsX8_safeSize) := goodIn_app (goodIn_of _ (by decide +kernel)) ggX8_markOf_X8_safeSize
theorem dX8_markOf_0 : decode cX8_markOf 0 = .ok (.iload_n 2, 1) := by decide +kernel
theorem dX8_markOf_1 : decode cX8_markOf 1 = .ok (.iconst 2, 1) := by decide +kernel
theorem dX8_markOf_2 : decode cX8_markOf 2 = .ok (.if_icmp .ne 9, 3) := by decide +kernel
theorem dX8_markOf_5 : decode cX8_markOf 5 = .ok (.aload_n 0, 1) := by decide +kernel
theorem dX8_markOf_6 : decode cX8_markOf 6 = .ok (.bipush 22, 2) := by decide +kernel
theorem dX8_markOf_8 : decode cX8_markOf 8 = .ok (.invokevirtual 200, 3) := by decide +kernel
theorem dX8_markOf_11 : decode cX8_markOf 11 = .ok (.iload_n 2, 1) := by decide +kernel
theorem dX8_markOf_12 : decode cX8_markOf 12 = .ok (.iconst 1, 1) := by decide +kernel
theorem dX8_markOf_13 : decode cX8_markOf 13 = .ok (.invokestatic 194, 3) := by decide +kernel
theorem dX8_markOf_16 : decode cX8_markOf 16 = .ok (.ifCond .eq 9, 3) := by decide +kernel
theorem dX8_markOf_19 : decode cX8_markOf 19 = .ok (.aload_n 0, 1) := by decide +kernel
theorem dX8_markOf_20 : decode cX8_markOf 20 = .ok (.bipush 21, 2) := by decide +kernel
theorem dX8_markOf_22 : decode cX8_markOf 22 = .ok (.invokevirtual 200, 3) := by decide +kernel
theorem dX8_markOf_25 : decode cX8_markOf 25 = .ok (.iload_n 2, 1) := by decide +kernel
theorem dX8_markOf_26 : decode cX8_markOf 26 = .ok (.iconst 3, 1) := by decide +kernel
theorem dX8_markOf_27 : decode cX8_markOf 27 = .ok (.if_icmp .ne 9, 3) := by decide +kernel
theorem dX8_markOf_30 : decode cX8_markOf 30 = .ok (.aload_n 0, 1) := by decide +kernel
theorem dX8_markOf_31 : decode cX8_markOf 31 = .ok (.bipush 23, 2) := by decide +kernel
theorem dX8_markOf_33 : decode cX8_markOf 33 = .ok (.invokevirtual 200, 3) := by decide +kernel
theorem dX8_markOf_36 : decode cX8_markOf 36 = .ok (.aload_n 0, 1) := by decide +kernel
theorem dX8_markOf_37 : decode cX8_markOf 37 = .ok (.bipush 20, 2) := by decide +kernel
theorem dX8_markOf_39 : decode cX8_markOf 39 = .ok (.invokevirtual 200, 3) := by decide +kernel
theorem dX8_markOf_42 : decode cX8_markOf 42 = .ok (.aload_n 0, 1) := by decide +kernel
theorem dX8_markOf_43 : decode cX8_markOf 43 = .ok (.getfield 19, 3) := by decide +kernel
theorem dX8_markOf_46 : decode cX8_markOf 46 = .ok (.bipush 7, 2) := by decide +kernel
theorem dX8_markOf_48 : decode cX8_markOf 48 = .ok (.iload_n 1, 1) := by decide +kernel
theorem dX8_markOf_49 : decode cX8_markOf 49 = .ok (.imul, 1) := by decide +kernel
theorem dX8_markOf_50 : decode cX8_markOf 50 = .ok (.iconst 5, 1) := by decide +kernel
theorem dX8_markOf_51 : decode cX8_markOf 51 = .ok (.iadd, 1) := by decide +kernel
theorem dX8_markOf_52 : decode cX8_markOf 52 = .ok (.iaload, 1) := by decide +kernel
theorem dX8_markOf_53 : decode cX8_markOf 53 = .ok (.istore_n 3, 1) := by decide +kernel
theorem dX8_markOf_54 : decode cX8_markOf 54 = .ok (.iload_n 2, 1) := by decide +kernel
theorem dX8_markOf_55 : decode cX8_markOf 55 = .ok (.iconst 3, 1) := by decide +kernel
theorem dX8_markOf_56 : decode cX8_markOf 56 = .ok (.if_icmp .ne 9, 3) := by decide +kernel
theorem dX8_markOf_59 : decode cX8_markOf 59 = .ok (.iload_n 3, 1) := by decide +kernel
theorem dX8_markOf_60 : decode cX8_markOf 60 = .ok (.iconst 2, 1) := by decide +kernel
theorem dX8_markOf_61 : decode cX8_markOf 61 = .ok (.idiv, 1) := by decide +kernel
theorem dX8_markOf_62 : decode cX8_markOf 62 = .ok (.goto 35, 3) := by decide +kernel
theorem dX8_markOf_65 : decode cX8_markOf 65 = .ok (.iload_n 2, 1) := by decide +kernel
theorem dX8_markOf_66 : decode cX8_markOf 66 = .ok (.iconst 1, 1) := by decide +kernel
theorem dX8_markOf_67 : decode cX8_markOf 67 = .ok (.if_icmp .ne 10, 3) := by decide +kernel
theorem dX8_markOf_70 : decode cX8_markOf 70 = .ok (.iload_n 3, 1) := by decide +kernel
theorem dX8_markOf_71 : decode cX8_markOf 71 = .ok (.bipush 100, 2) := by decide +kernel
theorem dX8_markOf_73 : decode cX8_markOf 73 = .ok (.iadd, 1) := by decide +kernel
theorem dX8_markOf_74 : decode cX8_markOf 74 = .ok (.goto 23, 3) := by decide +kernel
theorem dX8_markOf_77 : decode cX8_markOf 77 = .ok (.iload_n 2, 1) := by decide +kernel
theorem dX8_markOf_78 : decode cX8_markOf 78 = .ok (.iconst 2, 1) := by decide +kernel
theorem dX8_markOf_79 : decode cX8_markOf 79 = .ok (.if_icmp .ne 17, 3) := by decide +kernel
theorem dX8_markOf_82 : decode cX8_markOf 82 = .ok (.iload_n 3, 1) := by decide +kernel
theorem dX8_markOf_83 : decode cX8_markOf 83 = .ok (.bipush 100, 2) := by decide +kernel
theorem dX8_markOf_85 : decode cX8_markOf 85 = .ok (.iadd, 1) := by decide +kernel
theorem dX8_markOf_86 : decode cX8_markOf 86 = .ok (.aload_n 0, 1) := by decide +kernel
theorem dX8_markOf_87 : decode cX8_markOf 87 = .ok (.iload_n 1, 1) := by decide +kernel
theorem dX8_markOf_88 : decode cX8_markOf 88 = .ok (.iload_n 2, 1) := by decide +kernel
theorem dX8_markOf_89 : decode cX8_markOf 89 = .ok (.invokevirtual 203, 3) := by decide +kernel
theorem dX8_markOf_92 : decode cX8_markOf 92 = .ok (.iadd, 1) := by decide +kernel
theorem dX8_markOf_93 : decode cX8_markOf 93 = .ok (.goto 4, 3) := by decide +kernel
theorem dX8_markOf_96 : decode cX8_markOf 96 = .ok (.iload_n 3, 1) := by decide +kernel
theorem dX8_markOf_97 : decode cX8_markOf 97 = .ok (.ireturn, 1) := by decide +kernel
set_option maxRecDepth 20000 in
theorem ggX8_sizeOf_X8_isOf : GoodIn wsX8_sizeOf wsX8_isOf := goodIn_r _ [5] (by decide +kernel) (by decide +kernel)
set_option maxRecDepth 20000 in
theorem gX8_sizeOf_X8_isOf : GoodIn wsX8_sizeOf (va_wsS RX8 194 yX8_isOf wsX8_isOf) := goodIn_app (goodIn_of _ (by decide +kernel)) ggX8_sizeOf_X8_isOf
set_option maxRecDepth 20000 in
theorem ggX8_sizeOf_X8_safeSize : GoodIn wsX8_sizeOf wsX8_safeSize := goodIn_r _ [9, 1, 10, 11, 12, 4, 13, 14, 15, 20, 21, 22, 23, 24, 25, 26, 27, 28, 29, 30, 31, 32, 33, 34, 35, 36, 37, 38, 39, 40, 41] (by decide +kernel) (by decide +kernel)
set_option maxRecDepth 20000 in
theorem gX8_sizeOf_X8_safeSize : GoodIn wsX8_sizeOf (wsV RX8 203 RX8 yX8_safeSize wsX8_safeSize) := goodIn_app (goodIn_of _ (by decide +kernel)) ggX8_sizeOf_X8_safeSize
set_option maxRecDepth 20000 in
theorem ggX8_sizeOf_X8_began : GoodIn wsX8_sizeOf wsX8_began := goodIn_r _ [13, 14, 15, 20, 21, 22, 23, 24, 25, 26, 27, 28, 29, 30, 31, 32, 33, 34, 35, 36, 37, 38, 39, 40, 41] (by decide +kernel) (by decide +kernel)
set_option maxRecDepth 20000 in
theorem gX8_sizeOf_X8_began : GoodIn wsX8_sizeOf (wsV RX8 200 RX8 yX8_began wsX8_began) := goodIn_app (goodIn_of _ (by decide +kernel)) ggX8_sizeOf_X8_began
set_option maxRecDepth 20000 in
theorem ggX8_sizeOf_X8_markOf : GoodIn wsX8_sizeOf wsX8_markOf := goodIn_r _ [19, 1, 10, 11, 12, 4, 13, 14, 15, 2, 3, 5, 6, 7, 8, 9, 20, 21, 22, 23, 24, 25, 26, 27, 28, 29, 30, 31, 32, 33, 34, 35, 36, 37, 38, 39, 40, 41] (by decide +kernel) (by decide +kernel)
set_option maxRecDepth 20000 in
theorem gX8_sizeOf_X8_markOf : GoodIn wsX8_sizeOf (wsV RX8 206 RX8 yX8_markOf wsX8_markOf) := goodIn_app (goodIn_of _ (by decide +kernel)) ggX8_sizeOf_X8_markOf
theorem dX8_sizeOf_0 : decode cX8_sizeOf 0 = .ok (.iload_n 2, 1) := by decide +kernel
theorem dX8_sizeOf_1 : decode cX8_sizeOf 1 = .ok (.iconst 1, 1) := by decide +kernel
theorem dX8_sizeOf_2 : decode cX8_sizeOf 2 = .ok (.invokestatic 194, 3) := by decide +kernel
theorem dX8_sizeOf_5 : decode cX8_sizeOf 5 = .ok (.ifCond .eq 10, 3) := by decide +kernel
theorem dX8_sizeOf_8 : decode cX8_sizeOf 8 = .ok (.aload_n 0, 1) := by decide +kernel
theorem dX8_sizeOf_9 : decode cX8_sizeOf 9 = .ok (.iload_n 1, 1) := by decide +kernel
theorem dX8_sizeOf_10 : decode cX8_sizeOf 10 = .ok (.iload_n 2, 1) := by decide +kernel
theorem dX8_sizeOf_11 : decode cX8_sizeOf 11 = .ok (.invokevirtual 203, 3) := by decide +kernel
theorem dX8_sizeOf_14 : decode cX8_sizeOf 14 = .ok (.ireturn, 1) := by decide +kernel
theorem dX8_sizeOf_15 : decode cX8_sizeOf 15 = .ok (.iload_n 2, 1) := by decide +kernel
theorem dX8_sizeOf_16 : decode cX8_sizeOf 16 = .ok (.iconst 3, 1) := by decide +kernel
theorem dX8_sizeOf_17 : decode cX8_sizeOf 17 = .ok (.if_icmp .ne 9, 3) := by decide +kernel
theorem dX8_sizeOf_20 : decode cX8_sizeOf 20 = .ok (.aload_n 0, 1) := by decide +kernel
theorem dX8_sizeOf_21 : decode cX8_sizeOf 21 = .ok (.bipush 13, 2) := by decide +kernel
theorem dX8_sizeOf_23 : decode cX8_sizeOf 23 = .ok (.invokevirtual 200, 3) := by decide +kernel
theorem dX8_sizeOf_26 : decode cX8_sizeOf 26 = .ok (.aload_n 0, 1) := by decide +kernel
theorem dX8_sizeOf_27 : decode cX8_sizeOf 27 = .ok (.bipush 10, 2) := by decide +kernel
theorem dX8_sizeOf_29 : decode cX8_sizeOf 29 = .ok (.invokevirtual 200, 3) := by decide +kernel
theorem dX8_sizeOf_32 : decode cX8_sizeOf 32 = .ok (.aload_n 0, 1) := by decide +kernel
theorem dX8_sizeOf_33 : decode cX8_sizeOf 33 = .ok (.getfield 19, 3) := by decide +kernel
theorem dX8_sizeOf_36 : decode cX8_sizeOf 36 = .ok (.bipush 7, 2) := by decide +kernel
theorem dX8_sizeOf_38 : decode cX8_sizeOf 38 = .ok (.iload_n 1, 1) := by decide +kernel
theorem dX8_sizeOf_39 : decode cX8_sizeOf 39 = .ok (.imul, 1) := by decide +kernel
theorem dX8_sizeOf_40 : decode cX8_sizeOf 40 = .ok (.bipush 6, 2) := by decide +kernel
theorem dX8_sizeOf_42 : decode cX8_sizeOf 42 = .ok (.iadd, 1) := by decide +kernel
theorem dX8_sizeOf_43 : decode cX8_sizeOf 43 = .ok (.iaload, 1) := by decide +kernel
theorem dX8_sizeOf_44 : decode cX8_sizeOf 44 = .ok (.istore_n 3, 1) := by decide +kernel
theorem dX8_sizeOf_45 : decode cX8_sizeOf 45 = .ok (.iload_n 2, 1) := by decide +kernel
theorem dX8_sizeOf_46 : decode cX8_sizeOf 46 = .ok (.iconst 3, 1) := by decide +kernel
theorem dX8_sizeOf_47 : decode cX8_sizeOf 47 = .ok (.if_icmp .ne 14, 3) := by decide +kernel
theorem dX8_sizeOf_50 : decode cX8_sizeOf 50 = .ok (.iload_n 3, 1) := by decide +kernel
theorem dX8_sizeOf_51 : decode cX8_sizeOf 51 = .ok (.aload_n 0, 1) := by decide +kernel
theorem dX8_sizeOf_52 : decode cX8_sizeOf 52 = .ok (.iload_n 1, 1) := by decide +kernel
theorem dX8_sizeOf_53 : decode cX8_sizeOf 53 = .ok (.iload_n 2, 1) := by decide +kernel
theorem dX8_sizeOf_54 : decode cX8_sizeOf 54 = .ok (.invokevirtual 206, 3) := by decide +kernel
theorem dX8_sizeOf_57 : decode cX8_sizeOf 57 = .ok (.isub, 1) := by decide +kernel
theorem dX8_sizeOf_58 : decode cX8_sizeOf 58 = .ok (.goto 4, 3) := by decide +kernel
theorem dX8_sizeOf_61 : decode cX8_sizeOf 61 = .ok (.iload_n 3, 1) := by decide +kernel
theorem dX8_sizeOf_62 : decode cX8_sizeOf 62 = .ok (.ireturn, 1) := by decide +kernel
set_option maxRecDepth 20000 in
theorem ggX8_ask_X8_isStriker : GoodIn wsX8_ask wsX8_isStriker := goodIn_r _ [8, 9, 10, 11, 7, 12, 38, 39, 40, 41, 42, 43, 44, 45, 46, 47, 48, 49, 50, 51, 52, 53, 54, 55, 56, 57, 58, 59] (by decide +kernel) (by decide +kernel)
set_option maxRecDepth 20000 in
theorem gX8_ask_X8_isStriker : GoodIn wsX8_ask (wsV RX8 108 RX8 yX8_isStriker wsX8_isStriker) := goodIn_app (goodIn_of _ (by decide +kernel)) ggX8_ask_X8_isStriker
set_option maxRecDepth 20000 in
theorem ggX8_ask_X8_in : GoodIn wsX8_ask wsX8_in := goodIn_r _ [12] (by decide +kernel) (by decide +kernel)
set_option maxRecDepth 20000 in
theorem gX8_ask_X8_in : GoodIn wsX8_ask (va_wsS RX8 62 yX8_in wsX8_in) := goodIn_app (goodIn_of _ (by decide +kernel)) ggX8_ask_X8_in
set_option maxRecDepth 20000 in
theorem ggX8_ask_X8_kindOf : GoodIn wsX8_ask wsX8_kindOf := goodIn_r _ [16, 17, 38, 39, 40, 41, 42, 43, 44, 45, 46, 47, 48, 49, 50, 51, 52, 53, 54, 55, 56, 57, 58, 59] (by decide +kernel) (by decide +kernel)
set_option maxRecDepth 20000 in
theorem gX8_ask_X8_kindOf : GoodIn wsX8_ask (wsV RX8 191 RX8 yX8_kindOf wsX8_kindOf) := goodIn_app (goodIn_of _ (by decide +kernel)) ggX8_ask_X8_kindOf
set_option maxRecDepth 20000 in
theorem ggX8_ask_X8_sizeOf : GoodIn wsX8_ask wsX8_sizeOf := goodIn_r _ [21, 17, 22, 23, 7, 24, 25, 26, 27, 28, 29, 30, 31, 32, 3, 33, 34, 35, 36, 37, 38, 39, 40, 41, 42, 43, 44, 45, 46, 47, 48, 49, 50, 51, 52, 53, 54, 55, 56, 57, 58, 59] (by decide +kernel) (by decide +kernel)
set_option maxRecDepth 20000 in
theorem gX8_ask_X8_sizeOf : GoodIn wsX8_ask (wsV RX8 209 RX8 yX8_sizeOf wsX8_sizeOf) := goodIn_app (goodIn_of _ (by decide +kernel)) ggX8_ask_X8_sizeOf
set_option maxRecDepth 20000 in
theorem ggX8_ask_X8_markOf : GoodIn wsX8_ask wsX8_markOf := goodIn_r _ [37, 17, 29, 30, 31, 7, 32, 3, 33, 22, 23, 24, 25, 26, 27, 28, 38, 39, 40, 41, 42, 43, 44, 45, 46, 47, 48, 49, 50, 51, 52, 53, 54, 55, 56, 57, 58, 59] (by decide +kernel) (by decide +kernel)
set_option maxRecDepth 20000 in
theorem gX8_ask_X8_markOf : GoodIn wsX8_ask (wsV RX8 206 RX8 yX8_markOf wsX8_markOf) := goodIn_app (goodIn_of _ (by decide +kernel)) ggX8_ask_X8_markOf
theorem dX8_ask_0 : decode cX8_ask 0 = .ok (.aload_n 0, 1) := by decide +kernel
theorem dX8_ask_1 : decode cX8_ask 1 = .ok (.iconst 0, 1) := by decide +kernel
theorem dX8_ask_2 : decode cX8_ask 2 = .ok (.putfield 52, 3) := by decide +kernel
theorem dX8_ask_5 : decode cX8_ask 5 = .ok (.aload_n 0, 1) := by decide +kernel
theorem dX8_ask_6 : decode cX8_ask 6 = .ok (.iload_n 1, 1) := by decide +kernel
theorem dX8_ask_7 : decode cX8_ask 7 = .ok (.invokevirtual 108, 3) := by decide +kernel
theorem dX8_ask_10 : decode cX8_ask 10 = .ok (.ifCond .eq 13, 3) := by decide +kernel
theorem dX8_ask_13 : decode cX8_ask 13 = .ok (.iload_n 2, 1) := by decide +kernel
theorem dX8_ask_14 : decode cX8_ask 14 = .ok (.i2l, 1) := by decide +kernel
theorem dX8_ask_15 : decode cX8_ask 15 = .ok (.lconst 0, 1) := by decide +kernel
theorem dX8_ask_16 : decode cX8_ask 16 = .ok (.lconst 1, 1) := by decide +kernel
theorem dX8_ask_17 : decode cX8_ask 17 = .ok (.invokestatic 62, 3) := by decide +kernel
theorem dX8_ask_20 : decode cX8_ask 20 = .ok (.ifCond .ne 6, 3) := by decide +kernel
theorem dX8_ask_23 : decode cX8_ask 23 = .ok (.ldc 72, 2) := by decide +kernel
theorem dX8_ask_25 : decode cX8_ask 25 = .ok (.ireturn, 1) := by decide +kernel
theorem dX8_ask_26 : decode cX8_ask 26 = .ok (.aload_n 0, 1) := by decide +kernel
theorem dX8_ask_27 : decode cX8_ask 27 = .ok (.iconst 0, 1) := by decide +kernel
theorem dX8_ask_28 : decode cX8_ask 28 = .ok (.putfield 197, 3) := by decide +kernel
theorem dX8_ask_31 : decode cX8_ask 31 = .ok (.iload_n 2, 1) := by decide +kernel
theorem dX8_ask_32 : decode cX8_ask 32 = .ok (.ifCond .ne 16, 3) := by decide +kernel
theorem dX8_ask_35 : decode cX8_ask 35 = .ok (.aload_n 0, 1) := by decide +kernel
theorem dX8_ask_36 : decode cX8_ask 36 = .ok (.iload_n 1, 1) := by decide +kernel
theorem dX8_ask_37 : decode cX8_ask 37 = .ok (.aload_n 0, 1) := by decide +kernel
theorem dX8_ask_38 : decode cX8_ask 38 = .ok (.iload_n 1, 1) := by decide +kernel
theorem dX8_ask_39 : decode cX8_ask 39 = .ok (.invokevirtual 191, 3) := by decide +kernel
theorem dX8_ask_42 : decode cX8_ask 42 = .ok (.invokevirtual 209, 3) := by decide +kernel
theorem dX8_ask_45 : decode cX8_ask 45 = .ok (.goto 13, 3) := by decide +kernel
theorem dX8_ask_48 : decode cX8_ask 48 = .ok (.aload_n 0, 1) := by decide +kernel
theorem dX8_ask_49 : decode cX8_ask 49 = .ok (.iload_n 1, 1) := by decide +kernel
theorem dX8_ask_50 : decode cX8_ask 50 = .ok (.aload_n 0, 1) := by decide +kernel
theorem dX8_ask_51 : decode cX8_ask 51 = .ok (.iload_n 1, 1) := by decide +kernel
theorem dX8_ask_52 : decode cX8_ask 52 = .ok (.invokevirtual 191, 3) := by decide +kernel
theorem dX8_ask_55 : decode cX8_ask 55 = .ok (.invokevirtual 206, 3) := by decide +kernel
theorem dX8_ask_58 : decode cX8_ask 58 = .ok (.ireturn, 1) := by decide +kernel
set_option maxRecDepth 20000 in
theorem ggX8_trace_X8_in : GoodIn wsX8_trace wsX8_in := goodIn_r _ [8] (by decide +kernel) (by decide +kernel)
set_option maxRecDepth 20000 in
theorem gX8_trace_X8_in : GoodIn wsX8_trace (va_wsS RX8 62 yX8_in wsX8_in) := goodIn_app (goodIn_of _ (by decide +kernel)) ggX8_trace_X8_in
theorem dX8_trace_0 : decode cX8_trace 0 = .ok (.aload_n 0, 1) := by decide +kernel
theorem dX8_trace_1 : decode cX8_trace 1 = .ok (.iconst 0, 1) := by decide +kernel
theorem dX8_trace_2 : decode cX8_trace 2 = .ok (.putfield 52, 3) := by decide +kernel
theorem dX8_trace_5 : decode cX8_trace 5 = .ok (.iload_n 1, 1) := by decide +kernel
theorem dX8_trace_6 : decode cX8_trace 6 = .ok (.i2l, 1) := by decide +kernel
theorem dX8_trace_7 : decode cX8_trace 7 = .ok (.lconst 0, 1) := by decide +kernel
theorem dX8_trace_8 : decode cX8_trace 8 = .ok (.aload_n 0, 1) := by decide +kernel
theorem dX8_trace_9 : decode cX8_trace 9 = .ok (.getfield 197, 3) := by decide +kernel
theorem dX8_trace_12 : decode cX8_trace 12 = .ok (.iconst 1, 1) := by decide +kernel
theorem dX8_trace_13 : decode cX8_trace 13 = .ok (.isub, 1) := by decide +kernel
theorem dX8_trace_14 : decode cX8_trace 14 = .ok (.i2l, 1) := by decide +kernel
theorem dX8_trace_15 : decode cX8_trace 15 = .ok (.invokestatic 62, 3) := by decide +kernel
theorem dX8_trace_18 : decode cX8_trace 18 = .ok (.ifCond .eq 12, 3) := by decide +kernel
theorem dX8_trace_21 : decode cX8_trace 21 = .ok (.aload_n 0, 1) := by decide +kernel
theorem dX8_trace_22 : decode cX8_trace 22 = .ok (.getfield 49, 3) := by decide +kernel
theorem dX8_trace_25 : decode cX8_trace 25 = .ok (.iload_n 1, 1) := by decide +kernel
theorem dX8_trace_26 : decode cX8_trace 26 = .ok (.iaload, 1) := by decide +kernel
theorem dX8_trace_27 : decode cX8_trace 27 = .ok (.goto 5, 3) := by decide +kernel
theorem dX8_trace_30 : decode cX8_trace 30 = .ok (.ldc 35, 2) := by decide +kernel
theorem dX8_trace_32 : decode cX8_trace 32 = .ok (.ireturn, 1) := by decide +kernel
set_option maxRecDepth 20000 in
theorem ggX8_count_X8_kindOf : GoodIn wsX8_count wsX8_kindOf := goodIn_r _ [12, 13, 17, 18, 19, 20, 21, 22, 23, 24, 25, 26, 27, 28, 29, 30, 31, 32, 33, 34, 35, 36, 37, 38] (by decide +kernel) (by decide +kernel)
set_option maxRecDepth 20000 in
theorem gX8_count_X8_kindOf : GoodIn wsX8_count (wsV RX8 191 RX8 yX8_kindOf wsX8_kindOf) := goodIn_app (goodIn_of _ (by decide +kernel)) ggX8_count_X8_kindOf
set_option maxRecDepth 20000 in
theorem ggX8_count_X8_isOf : GoodIn wsX8_count wsX8_isOf := goodIn_r _ [16] (by decide +kernel) (by decide +kernel)
set_option maxRecDepth 20000 in
theorem gX8_count_X8_isOf : GoodIn wsX8_count (va_wsS RX8 194 yX8_isOf wsX8_isOf) := goodIn_app (goodIn_of _ (by decide +kernel)) ggX8_count_X8_isOf
theorem dX8_count_0 : decode cX8_count 0 = .ok (.aload_n 0, 1) := by decide +kernel
theorem dX8_count_1 : decode cX8_count 1 = .ok (.iconst 0, 1) := by decide +kernel
theorem dX8_count_2 : decode cX8_count 2 = .ok (.putfield 52, 3) := by decide +kernel
theorem dX8_count_5 : decode cX8_count 5 = .ok (.iconst 0, 1) := by decide +kernel
theorem dX8_count_6 : decode cX8_count 6 = .ok (.istore_n 2, 1) := by decide +kernel
theorem dX8_count_7 : decode cX8_count 7 = .ok (.iload_n 1, 1) := by decide +kernel
theorem dX8_count_8 : decode cX8_count 8 = .ok (.tableswitch 161 0 6 #[44, 77, 82, 82, 82, 122, 127], 44) := by decide +kernel
theorem dX8_count_52 : decode cX8_count 52 = .ok (.iconst 0, 1) := by decide +kernel
theorem dX8_count_53 : decode cX8_count 53 = .ok (.istore_n 3, 1) := by decide +kernel
theorem dX8_count_54 : decode cX8_count 54 = .ok (.iload_n 3, 1) := by decide +kernel
theorem dX8_count_55 : decode cX8_count 55 = .ok (.bipush 8, 2) := by decide +kernel
theorem dX8_count_57 : decode cX8_count 57 = .ok (.if_icmp .ge 26, 3) := by decide +kernel
theorem dX8_count_60 : decode cX8_count 60 = .ok (.iload_n 2, 1) := by decide +kernel
theorem dX8_count_61 : decode cX8_count 61 = .ok (.aload_n 0, 1) := by decide +kernel
theorem dX8_count_62 : decode cX8_count 62 = .ok (.getfield 7, 3) := by decide +kernel
theorem dX8_count_65 : decode cX8_count 65 = .ok (.iload_n 3, 1) := by decide +kernel
theorem dX8_count_66 : decode cX8_count 66 = .ok (.iaload, 1) := by decide +kernel
theorem dX8_count_67 : decode cX8_count 67 = .ok (.ifCond .lt 7, 3) := by decide +kernel
theorem dX8_count_70 : decode cX8_count 70 = .ok (.iconst 1, 1) := by decide +kernel
theorem dX8_count_71 : decode cX8_count 71 = .ok (.goto 4, 3) := by decide +kernel
theorem dX8_count_74 : decode cX8_count 74 = .ok (.iconst 0, 1) := by decide +kernel
theorem dX8_count_75 : decode cX8_count 75 = .ok (.iadd, 1) := by decide +kernel
theorem dX8_count_76 : decode cX8_count 76 = .ok (.istore_n 2, 1) := by decide +kernel
theorem dX8_count_77 : decode cX8_count 77 = .ok (.iinc 3 1, 3) := by decide +kernel
theorem dX8_count_80 : decode cX8_count 80 = .ok (.goto (-26), 3) := by decide +kernel
theorem dX8_count_83 : decode cX8_count 83 = .ok (.iload_n 2, 1) := by decide +kernel
theorem dX8_count_84 : decode cX8_count 84 = .ok (.ireturn, 1) := by decide +kernel
theorem dX8_count_85 : decode cX8_count 85 = .ok (.aload_n 0, 1) := by decide +kernel
theorem dX8_count_86 : decode cX8_count 86 = .ok (.getfield 95, 3) := by decide +kernel
theorem dX8_count_89 : decode cX8_count 89 = .ok (.ireturn, 1) := by decide +kernel
theorem dX8_count_90 : decode cX8_count 90 = .ok (.iconst 0, 1) := by decide +kernel
theorem dX8_count_91 : decode cX8_count 91 = .ok (.istore_n 3, 1) := by decide +kernel
theorem dX8_count_92 : decode cX8_count 92 = .ok (.iload_n 3, 1) := by decide +kernel
theorem dX8_count_93 : decode cX8_count 93 = .ok (.aload_n 0, 1) := by decide +kernel
theorem dX8_count_94 : decode cX8_count 94 = .ok (.getfield 95, 3) := by decide +kernel
theorem dX8_count_97 : decode cX8_count 97 = .ok (.if_icmp .ge 31, 3) := by decide +kernel
theorem dX8_count_100 : decode cX8_count 100 = .ok (.iload_n 2, 1) := by decide +kernel
theorem dX8_count_101 : decode cX8_count 101 = .ok (.aload_n 0, 1) := by decide +kernel
theorem dX8_count_102 : decode cX8_count 102 = .ok (.iload_n 3, 1) := by decide +kernel
theorem dX8_count_103 : decode cX8_count 103 = .ok (.invokevirtual 191, 3) := by decide +kernel
theorem dX8_count_106 : decode cX8_count 106 = .ok (.iload_n 1, 1) := by decide +kernel
theorem dX8_count_107 : decode cX8_count 107 = .ok (.iconst 1, 1) := by decide +kernel
theorem dX8_count_108 : decode cX8_count 108 = .ok (.isub, 1) := by decide +kernel
theorem dX8_count_109 : decode cX8_count 109 = .ok (.invokestatic 194, 3) := by decide +kernel
theorem dX8_count_112 : decode cX8_count 112 = .ok (.ifCond .eq 7, 3) := by decide +kernel
theorem dX8_count_115 : decode cX8_count 115 = .ok (.iconst 1, 1) := by decide +kernel
theorem dX8_count_116 : decode cX8_count 116 = .ok (.goto 4, 3) := by decide +kernel
theorem dX8_count_119 : decode cX8_count 119 = .ok (.iconst 0, 1) := by decide +kernel
theorem dX8_count_120 : decode cX8_count 120 = .ok (.iadd, 1) := by decide +kernel
theorem dX8_count_121 : decode cX8_count 121 = .ok (.istore_n 2, 1) := by decide +kernel
theorem dX8_count_122 : decode cX8_count 122 = .ok (.iinc 3 1, 3) := by decide +kernel
theorem dX8_count_125 : decode cX8_count 125 = .ok (.goto (-33), 3) := by decide +kernel
theorem dX8_count_128 : decode cX8_count 128 = .ok (.iload_n 2, 1) := by decide +kernel
theorem dX8_count_129 : decode cX8_count 129 = .ok (.ireturn, 1) := by decide +kernel
theorem dX8_count_130 : decode cX8_count 130 = .ok (.aload_n 0, 1) := by decide +kernel
theorem dX8_count_131 : decode cX8_count 131 = .ok (.getfield 116, 3) := by decide +kernel
theorem dX8_count_134 : decode cX8_count 134 = .ok (.ireturn, 1) := by decide +kernel
theorem dX8_count_135 : decode cX8_count 135 = .ok (.aload_n 0, 1) := by decide +kernel
theorem dX8_count_136 : decode cX8_count 136 = .ok (.getfield 36, 3) := by decide +kernel
theorem dX8_count_139 : decode cX8_count 139 = .ok (.iconst 0, 1) := by decide +kernel
theorem dX8_count_140 : decode cX8_count 140 = .ok (.iaload, 1) := by decide +kernel
theorem dX8_count_141 : decode cX8_count 141 = .ok (.ldc 35, 2) := by decide +kernel
theorem dX8_count_143 : decode cX8_count 143 = .ok (.if_icmp .ne 7, 3) := by decide +kernel
theorem dX8_count_146 : decode cX8_count 146 = .ok (.iconst 0, 1) := by decide +kernel
theorem dX8_count_147 : decode cX8_count 147 = .ok (.goto 4, 3) := by decide +kernel
theorem dX8_count_150 : decode cX8_count 150 = .ok (.iconst 1, 1) := by decide +kernel
theorem dX8_count_151 : decode cX8_count 151 = .ok (.aload_n 0, 1) := by decide +kernel
theorem dX8_count_152 : decode cX8_count 152 = .ok (.getfield 36, 3) := by decide +kernel
theorem dX8_count_155 : decode cX8_count 155 = .ok (.iconst 1, 1) := by decide +kernel
theorem dX8_count_156 : decode cX8_count 156 = .ok (.iaload, 1) := by decide +kernel
theorem dX8_count_157 : decode cX8_count 157 = .ok (.ldc 35, 2) := by decide +kernel
theorem dX8_count_159 : decode cX8_count 159 = .ok (.if_icmp .ne 7, 3) := by decide +kernel
theorem dX8_count_162 : decode cX8_count 162 = .ok (.iconst 0, 1) := by decide +kernel
theorem dX8_count_163 : decode cX8_count 163 = .ok (.goto 4, 3) := by decide +kernel
theorem dX8_count_166 : decode cX8_count 166 = .ok (.iconst 1, 1) := by decide +kernel
theorem dX8_count_167 : decode cX8_count 167 = .ok (.iadd, 1) := by decide +kernel
theorem dX8_count_168 : decode cX8_count 168 = .ok (.ireturn, 1) := by decide +kernel
theorem dX8_count_169 : decode cX8_count 169 = .ok (.ldc 72, 2) := by decide +kernel
theorem dX8_count_171 : decode cX8_count 171 = .ok (.ireturn, 1) := by decide +kernel
theorem dX8_status_0 : decode cX8_status 0 = .ok (.aload_n 0, 1) := by decide +kernel
theorem dX8_status_1 : decode cX8_status 1 = .ok (.iconst 0, 1) := by decide +kernel
theorem dX8_status_2 : decode cX8_status 2 = .ok (.putfield 52, 3) := by decide +kernel
theorem dX8_status_5 : decode cX8_status 5 = .ok (.aload_n 0, 1) := by decide +kernel
theorem dX8_status_6 : decode cX8_status 6 = .ok (.getfield 56, 3) := by decide +kernel
theorem dX8_status_9 : decode cX8_status 9 = .ok (.ireturn, 1) := by decide +kernel
theorem dJ6_bitCount_0f7a4_0 : decode cJ6_bitCount_0f7a4 0 = .ok (.iload_n 0, 1) := by decide +kernel
theorem dJ6_bitCount_0f7a4_1 : decode cJ6_bitCount_0f7a4 1 = .ok (.iload_n 0, 1) := by decide +kernel
theorem dJ6_bitCount_0f7a4_2 : decode cJ6_bitCount_0f7a4 2 = .ok (.iconst 1, 1) := by decide +kernel
theorem dJ6_bitCount_0f7a4_3 : decode cJ6_bitCount_0f7a4 3 = .ok (.iushr, 1) := by decide +kernel
theorem dJ6_bitCount_0f7a4_4 : decode cJ6_bitCount_0f7a4 4 = .ok (.ldc_w 265, 3) := by decide +kernel
theorem dJ6_bitCount_0f7a4_7 : decode cJ6_bitCount_0f7a4 7 = .ok (.iand, 1) := by decide +kernel
theorem dJ6_bitCount_0f7a4_8 : decode cJ6_bitCount_0f7a4 8 = .ok (.isub, 1) := by decide +kernel
theorem dJ6_bitCount_0f7a4_9 : decode cJ6_bitCount_0f7a4 9 = .ok (.istore_n 0, 1) := by decide +kernel
theorem dJ6_bitCount_0f7a4_10 : decode cJ6_bitCount_0f7a4 10 = .ok (.iload_n 0, 1) := by decide +kernel
theorem dJ6_bitCount_0f7a4_11 : decode cJ6_bitCount_0f7a4 11 = .ok (.ldc_w 266, 3) := by decide +kernel
theorem dJ6_bitCount_0f7a4_14 : decode cJ6_bitCount_0f7a4 14 = .ok (.iand, 1) := by decide +kernel
theorem dJ6_bitCount_0f7a4_15 : decode cJ6_bitCount_0f7a4 15 = .ok (.iload_n 0, 1) := by decide +kernel
theorem dJ6_bitCount_0f7a4_16 : decode cJ6_bitCount_0f7a4 16 = .ok (.iconst 2, 1) := by decide +kernel
theorem dJ6_bitCount_0f7a4_17 : decode cJ6_bitCount_0f7a4 17 = .ok (.iushr, 1) := by decide +kernel
theorem dJ6_bitCount_0f7a4_18 : decode cJ6_bitCount_0f7a4 18 = .ok (.ldc_w 266, 3) := by decide +kernel
theorem dJ6_bitCount_0f7a4_21 : decode cJ6_bitCount_0f7a4 21 = .ok (.iand, 1) := by decide +kernel
theorem dJ6_bitCount_0f7a4_22 : decode cJ6_bitCount_0f7a4 22 = .ok (.iadd, 1) := by decide +kernel
theorem dJ6_bitCount_0f7a4_23 : decode cJ6_bitCount_0f7a4 23 = .ok (.istore_n 0, 1) := by decide +kernel
theorem dJ6_bitCount_0f7a4_24 : decode cJ6_bitCount_0f7a4 24 = .ok (.iload_n 0, 1) := by decide +kernel
theorem dJ6_bitCount_0f7a4_25 : decode cJ6_bitCount_0f7a4 25 = .ok (.iload_n 0, 1) := by decide +kernel
theorem dJ6_bitCount_0f7a4_26 : decode cJ6_bitCount_0f7a4 26 = .ok (.iconst 4, 1) := by decide +kernel
theorem dJ6_bitCount_0f7a4_27 : decode cJ6_bitCount_0f7a4 27 = .ok (.iushr, 1) := by decide +kernel
theorem dJ6_bitCount_0f7a4_28 : decode cJ6_bitCount_0f7a4 28 = .ok (.iadd, 1) := by decide +kernel
theorem dJ6_bitCount_0f7a4_29 : decode cJ6_bitCount_0f7a4 29 = .ok (.ldc_w 267, 3) := by decide +kernel
theorem dJ6_bitCount_0f7a4_32 : decode cJ6_bitCount_0f7a4 32 = .ok (.iand, 1) := by decide +kernel
theorem dJ6_bitCount_0f7a4_33 : decode cJ6_bitCount_0f7a4 33 = .ok (.istore_n 0, 1) := by decide +kernel
theorem dJ6_bitCount_0f7a4_34 : decode cJ6_bitCount_0f7a4 34 = .ok (.iload_n 0, 1) := by decide +kernel
theorem dJ6_bitCount_0f7a4_35 : decode cJ6_bitCount_0f7a4 35 = .ok (.iload_n 0, 1) := by decide +kernel
theorem dJ6_bitCount_0f7a4_36 : decode cJ6_bitCount_0f7a4 36 = .ok (.bipush 8, 2) := by decide +kernel
theorem dJ6_bitCount_0f7a4_38 : decode cJ6_bitCount_0f7a4 38 = .ok (.iushr, 1) := by decide +kernel
theorem dJ6_bitCount_0f7a4_39 : decode cJ6_bitCount_0f7a4 39 = .ok (.iadd, 1) := by decide +kernel
theorem dJ6_bitCount_0f7a4_40 : decode cJ6_bitCount_0f7a4 40 = .ok (.istore_n 0, 1) := by decide +kernel
theorem dJ6_bitCount_0f7a4_41 : decode cJ6_bitCount_0f7a4 41 = .ok (.iload_n 0, 1) := by decide +kernel
theorem dJ6_bitCount_0f7a4_42 : decode cJ6_bitCount_0f7a4 42 = .ok (.iload_n 0, 1) := by decide +kernel
theorem dJ6_bitCount_0f7a4_43 : decode cJ6_bitCount_0f7a4 43 = .ok (.bipush 16, 2) := by decide +kernel
theorem dJ6_bitCount_0f7a4_45 : decode cJ6_bitCount_0f7a4 45 = .ok (.iushr, 1) := by decide +kernel
theorem dJ6_bitCount_0f7a4_46 : decode cJ6_bitCount_0f7a4 46 = .ok (.iadd, 1) := by decide +kernel
theorem dJ6_bitCount_0f7a4_47 : decode cJ6_bitCount_0f7a4 47 = .ok (.istore_n 0, 1) := by decide +kernel
theorem dJ6_bitCount_0f7a4_48 : decode cJ6_bitCount_0f7a4 48 = .ok (.iload_n 0, 1) := by decide +kernel
theorem dJ6_bitCount_0f7a4_49 : decode cJ6_bitCount_0f7a4 49 = .ok (.bipush 63, 2) := by decide +kernel
theorem dJ6_bitCount_0f7a4_51 : decode cJ6_bitCount_0f7a4 51 = .ok (.iand, 1) := by decide +kernel
theorem dJ6_bitCount_0f7a4_52 : decode cJ6_bitCount_0f7a4 52 = .ok (.ireturn, 1) := by decide +kernel
theorem dJ9_max_7cf53_0 : decode cJ9_max_7cf53 0 = .ok (.iload_n 0, 1) := by decide +kernel
theorem dJ9_max_7cf53_1 : decode cJ9_max_7cf53 1 = .ok (.iload_n 1, 1) := by decide +kernel
theorem dJ9_max_7cf53_2 : decode cJ9_max_7cf53 2 = .ok (.if_icmp .lt 7, 3) := by decide +kernel
theorem dJ9_max_7cf53_5 : decode cJ9_max_7cf53 5 = .ok (.iload_n 0, 1) := by decide +kernel
theorem dJ9_max_7cf53_6 : decode cJ9_max_7cf53 6 = .ok (.goto 4, 3) := by decide +kernel
theorem dJ9_max_7cf53_9 : decode cJ9_max_7cf53 9 = .ok (.iload_n 1, 1) := by decide +kernel
theorem dJ9_max_7cf53_10 : decode cJ9_max_7cf53 10 = .ok (.ireturn, 1) := by decide +kernel
theorem dJ9_min_7cf53_0 : decode cJ9_min_7cf53 0 = .ok (.iload_n 0, 1) := by decide +kernel
theorem dJ9_min_7cf53_1 : decode cJ9_min_7cf53 1 = .ok (.iload_n 1, 1) := by decide +kernel
theorem dJ9_min_7cf53_2 : decode cJ9_min_7cf53 2 = .ok (.if_icmp .gt 7, 3) := by decide +kernel
theorem dJ9_min_7cf53_5 : decode cJ9_min_7cf53 5 = .ok (.iload_n 0, 1) := by decide +kernel
theorem dJ9_min_7cf53_6 : decode cJ9_min_7cf53 6 = .ok (.goto 4, 3) := by decide +kernel
theorem dJ9_min_7cf53_9 : decode cJ9_min_7cf53 9 = .ok (.iload_n 1, 1) := by decide +kernel
theorem dJ9_min_7cf53_10 : decode cJ9_min_7cf53 10 = .ok (.ireturn, 1) := by decide +kernel
theorem dJ7_fill_d0a16_0 : decode cJ7_fill_d0a16 0 = .ok (.iconst 0, 1) := by decide +kernel
theorem dJ7_fill_d0a16_1 : decode cJ7_fill_d0a16 1 = .ok (.istore_n 3, 1) := by decide +kernel
theorem dJ7_fill_d0a16_2 : decode cJ7_fill_d0a16 2 = .ok (.aload_n 0, 1) := by decide +kernel
theorem dJ7_fill_d0a16_3 : decode cJ7_fill_d0a16 3 = .ok (.arraylength, 1) := by decide +kernel
theorem dJ7_fill_d0a16_4 : decode cJ7_fill_d0a16 4 = .ok (.istore 4, 2) := by decide +kernel
theorem dJ7_fill_d0a16_6 : decode cJ7_fill_d0a16 6 = .ok (.iload_n 3, 1) := by decide +kernel
theorem dJ7_fill_d0a16_7 : decode cJ7_fill_d0a16 7 = .ok (.iload 4, 2) := by decide +kernel
theorem dJ7_fill_d0a16_9 : decode cJ7_fill_d0a16 9 = .ok (.if_icmp .ge 13, 3) := by decide +kernel
theorem dJ7_fill_d0a16_12 : decode cJ7_fill_d0a16 12 = .ok (.aload_n 0, 1) := by decide +kernel
theorem dJ7_fill_d0a16_13 : decode cJ7_fill_d0a16 13 = .ok (.iload_n 3, 1) := by decide +kernel
theorem dJ7_fill_d0a16_14 : decode cJ7_fill_d0a16 14 = .ok (.lload_n 1, 1) := by decide +kernel
theorem dJ7_fill_d0a16_15 : decode cJ7_fill_d0a16 15 = .ok (.lastore, 1) := by decide +kernel
theorem dJ7_fill_d0a16_16 : decode cJ7_fill_d0a16 16 = .ok (.iinc 3 1, 3) := by decide +kernel
theorem dJ7_fill_d0a16_19 : decode cJ7_fill_d0a16 19 = .ok (.goto (-13), 3) := by decide +kernel
theorem dJ7_fill_d0a16_22 : decode cJ7_fill_d0a16 22 = .ok (.return_, 1) := by decide +kernel
theorem dJ7_fill_53178_0 : decode cJ7_fill_53178 0 = .ok (.iconst 0, 1) := by decide +kernel
theorem dJ7_fill_53178_1 : decode cJ7_fill_53178 1 = .ok (.istore_n 2, 1) := by decide +kernel
theorem dJ7_fill_53178_2 : decode cJ7_fill_53178 2 = .ok (.aload_n 0, 1) := by decide +kernel
theorem dJ7_fill_53178_3 : decode cJ7_fill_53178 3 = .ok (.arraylength, 1) := by decide +kernel
theorem dJ7_fill_53178_4 : decode cJ7_fill_53178 4 = .ok (.istore_n 3, 1) := by decide +kernel
theorem dJ7_fill_53178_5 : decode cJ7_fill_53178 5 = .ok (.iload_n 2, 1) := by decide +kernel
theorem dJ7_fill_53178_6 : decode cJ7_fill_53178 6 = .ok (.iload_n 3, 1) := by decide +kernel
theorem dJ7_fill_53178_7 : decode cJ7_fill_53178 7 = .ok (.if_icmp .ge 13, 3) := by decide +kernel
theorem dJ7_fill_53178_10 : decode cJ7_fill_53178 10 = .ok (.aload_n 0, 1) := by decide +kernel
theorem dJ7_fill_53178_11 : decode cJ7_fill_53178 11 = .ok (.iload_n 2, 1) := by decide +kernel
theorem dJ7_fill_53178_12 : decode cJ7_fill_53178 12 = .ok (.iload_n 1, 1) := by decide +kernel
theorem dJ7_fill_53178_13 : decode cJ7_fill_53178 13 = .ok (.iastore, 1) := by decide +kernel
theorem dJ7_fill_53178_14 : decode cJ7_fill_53178 14 = .ok (.iinc 2 1, 3) := by decide +kernel
theorem dJ7_fill_53178_17 : decode cJ7_fill_53178 17 = .ok (.goto (-12), 3) := by decide +kernel
theorem dJ7_fill_53178_20 : decode cJ7_fill_53178 20 = .ok (.return_, 1) := by decide +kernel
