set_option maxRecDepth 20000 in
theorem gX2_through_X2_moves : GoodIn wsX2_through (wsV RX2 108 RX2 yX2_moves wsX2_moves) := goodIn_app (goodIn_of _ (by decide +kernel)) ggX2_through_X2_moves
set_option maxRecDepth 20000 in
theorem ggX2_through_X2_netLow : GoodIn wsX2_through wsX2_netLow := goodIn_r _ [55, 56, 57, 58, 59, 60, 9, 61, 62, 21, 38, 39, 40, 63, 64, 65, 66, 67, 68, 78, 79, 80, 81, 82, 83, 84, 85, 86, 87, 88, 89, 90, 91, 92, 93, 94, 95, 96, 97, 98] (by decide +kernel) (by decide +kernel)
set_option maxRecDepth 20000 in
theorem gX2_through_X2_netLow : GoodIn wsX2_through (wsV RX2 92 RX2 yX2_netLow wsX2_netLow) := goodIn_app (goodIn_of _ (by decide +kernel)) ggX2_through_X2_netLow
set_option maxRecDepth 20000 in
theorem ggX2_through_X2_netHigh : GoodIn wsX2_through wsX2_netHigh := goodIn_r _ [72, 56, 57, 63, 64, 65, 9, 66, 67, 68, 21, 58, 59, 60, 61, 62, 38, 39, 40, 78, 79, 80, 81, 82, 83, 84, 85, 86, 87, 88, 89, 90, 91, 92, 93, 94, 95, 96, 97, 98] (by decide +kernel) (by decide +kernel)
set_option maxRecDepth 20000 in
theorem gX2_through_X2_netHigh : GoodIn wsX2_through (wsV RX2 95 RX2 yX2_netHigh wsX2_netHigh) := goodIn_app (goodIn_of _ (by decide +kernel)) ggX2_through_X2_netHigh
set_option maxRecDepth 20000 in
theorem ggX2_through_X2_greater : GoodIn wsX2_through wsX2_greater := goodIn_r _ [40] (by decide +kernel) (by decide +kernel)
set_option maxRecDepth 20000 in
theorem gX2_through_X2_greater : GoodIn wsX2_through (va_wsS RX2 82 yX2_greater wsX2_greater) := goodIn_app (goodIn_of _ (by decide +kernel)) ggX2_through_X2_greater
set_option maxRecDepth 20000 in
theorem ggX2_through_X2_lesser : GoodIn wsX2_through wsX2_lesser := goodIn_r _ [43] (by decide +kernel) (by decide +kernel)
set_option maxRecDepth 20000 in
theorem gX2_through_X2_lesser : GoodIn wsX2_through (va_wsS RX2 98 yX2_lesser wsX2_lesser) := goodIn_app (goodIn_of _ (by decide +kernel)) ggX2_through_X2_lesser
theorem dX2_through_0 : decode cX2_through 0 = .ok (.aload_n 0, 1) := by decide +kernel
theorem dX2_through_1 : decode cX2_through 1 = .ok (.iconst 0, 1) := by decide +kernel
theorem dX2_through_2 : decode cX2_through 2 = .ok (.putfield 66, 3) := by decide +kernel
theorem dX2_through_5 : decode cX2_through 5 = .ok (.aload_n 0, 1) := by decide +kernel
theorem dX2_through_6 : decode cX2_through 6 = .ok (.iload_n 1, 1) := by decide +kernel
theorem dX2_through_7 : decode cX2_through 7 = .ok (.iload_n 2, 1) := by decide +kernel
theorem dX2_through_8 : decode cX2_through 8 = .ok (.invokevirtual 75, 3) := by decide +kernel
theorem dX2_through_11 : decode cX2_through 11 = .ok (.ifCond .ne 9, 3) := by decide +kernel
theorem dX2_through_14 : decode cX2_through 14 = .ok (.aload_n 0, 1) := by decide +kernel
theorem dX2_through_15 : decode cX2_through 15 = .ok (.iconst 1, 1) := by decide +kernel
theorem dX2_through_16 : decode cX2_through 16 = .ok (.invokevirtual 120, 3) := by decide +kernel
theorem dX2_through_19 : decode cX2_through 19 = .ok (.ireturn, 1) := by decide +kernel
theorem dX2_through_20 : decode cX2_through 20 = .ok (.aload_n 0, 1) := by decide +kernel
theorem dX2_through_21 : decode cX2_through 21 = .ok (.invokevirtual 124, 3) := by decide +kernel
theorem dX2_through_24 : decode cX2_through 24 = .ok (.ifCond .ne 9, 3) := by decide +kernel
theorem dX2_through_27 : decode cX2_through 27 = .ok (.aload_n 0, 1) := by decide +kernel
theorem dX2_through_28 : decode cX2_through 28 = .ok (.iconst 2, 1) := by decide +kernel
theorem dX2_through_29 : decode cX2_through 29 = .ok (.invokevirtual 120, 3) := by decide +kernel
theorem dX2_through_32 : decode cX2_through 32 = .ok (.ireturn, 1) := by decide +kernel
theorem dX2_through_33 : decode cX2_through 33 = .ok (.aload_n 0, 1) := by decide +kernel
theorem dX2_through_34 : decode cX2_through 34 = .ok (.iload_n 2, 1) := by decide +kernel
theorem dX2_through_35 : decode cX2_through 35 = .ok (.iload_n 1, 1) := by decide +kernel
theorem dX2_through_36 : decode cX2_through 36 = .ok (.invokevirtual 108, 3) := by decide +kernel
theorem dX2_through_39 : decode cX2_through 39 = .ok (.bipush 6, 2) := by decide +kernel
theorem dX2_through_41 : decode cX2_through 41 = .ok (.iload_n 2, 1) := by decide +kernel
theorem dX2_through_42 : decode cX2_through 42 = .ok (.imul, 1) := by decide +kernel
theorem dX2_through_43 : decode cX2_through 43 = .ok (.istore 4, 2) := by decide +kernel
theorem dX2_through_45 : decode cX2_through 45 = .ok (.aload_n 0, 1) := by decide +kernel
theorem dX2_through_46 : decode cX2_through 46 = .ok (.getfield 53, 3) := by decide +kernel
theorem dX2_through_49 : decode cX2_through 49 = .ok (.iload 4, 2) := by decide +kernel
theorem dX2_through_51 : decode cX2_through 51 = .ok (.bipush 6, 2) := by decide +kernel
theorem dX2_through_53 : decode cX2_through 53 = .ok (.iadd, 1) := by decide +kernel
theorem dX2_through_54 : decode cX2_through 54 = .ok (.iaload, 1) := by decide +kernel
theorem dX2_through_55 : decode cX2_through 55 = .ok (.aload_n 0, 1) := by decide +kernel
theorem dX2_through_56 : decode cX2_through 56 = .ok (.getfield 50, 3) := by decide +kernel
theorem dX2_through_59 : decode cX2_through 59 = .ok (.iload 4, 2) := by decide +kernel
theorem dX2_through_61 : decode cX2_through 61 = .ok (.iconst 1, 1) := by decide +kernel
theorem dX2_through_62 : decode cX2_through 62 = .ok (.iadd, 1) := by decide +kernel
theorem dX2_through_63 : decode cX2_through 63 = .ok (.iaload, 1) := by decide +kernel
theorem dX2_through_64 : decode cX2_through 64 = .ok (.isub, 1) := by decide +kernel
theorem dX2_through_65 : decode cX2_through 65 = .ok (.aload_n 0, 1) := by decide +kernel
theorem dX2_through_66 : decode cX2_through 66 = .ok (.getfield 59, 3) := by decide +kernel
theorem dX2_through_69 : decode cX2_through 69 = .ok (.iconst 1, 1) := by decide +kernel
theorem dX2_through_70 : decode cX2_through 70 = .ok (.iaload, 1) := by decide +kernel
theorem dX2_through_71 : decode cX2_through 71 = .ok (.isub, 1) := by decide +kernel
theorem dX2_through_72 : decode cX2_through 72 = .ok (.aload_n 0, 1) := by decide +kernel
theorem dX2_through_73 : decode cX2_through 73 = .ok (.getfield 59, 3) := by decide +kernel
theorem dX2_through_76 : decode cX2_through 76 = .ok (.iconst 4, 1) := by decide +kernel
theorem dX2_through_77 : decode cX2_through 77 = .ok (.iaload, 1) := by decide +kernel
theorem dX2_through_78 : decode cX2_through 78 = .ok (.iadd, 1) := by decide +kernel
theorem dX2_through_79 : decode cX2_through 79 = .ok (.istore 5, 2) := by decide +kernel
theorem dX2_through_81 : decode cX2_through 81 = .ok (.aload_n 0, 1) := by decide +kernel
theorem dX2_through_82 : decode cX2_through 82 = .ok (.getfield 53, 3) := by decide +kernel
theorem dX2_through_85 : decode cX2_through 85 = .ok (.iload 4, 2) := by decide +kernel
theorem dX2_through_87 : decode cX2_through 87 = .ok (.bipush 7, 2) := by decide +kernel
theorem dX2_through_89 : decode cX2_through 89 = .ok (.iadd, 1) := by decide +kernel
theorem dX2_through_90 : decode cX2_through 90 = .ok (.iaload, 1) := by decide +kernel
theorem dX2_through_91 : decode cX2_through 91 = .ok (.aload_n 0, 1) := by decide +kernel
theorem dX2_through_92 : decode cX2_through 92 = .ok (.getfield 50, 3) := by decide +kernel
theorem dX2_through_95 : decode cX2_through 95 = .ok (.iload 4, 2) := by decide +kernel
theorem dX2_through_97 : decode cX2_through 97 = .ok (.iaload, 1) := by decide +kernel
theorem dX2_through_98 : decode cX2_through 98 = .ok (.isub, 1) := by decide +kernel
theorem dX2_through_99 : decode cX2_through 99 = .ok (.aload_n 0, 1) := by decide +kernel
theorem dX2_through_100 : decode cX2_through 100 = .ok (.getfield 59, 3) := by decide +kernel
theorem dX2_through_103 : decode cX2_through 103 = .ok (.iconst 0, 1) := by decide +kernel
theorem dX2_through_104 : decode cX2_through 104 = .ok (.iaload, 1) := by decide +kernel
theorem dX2_through_105 : decode cX2_through 105 = .ok (.isub, 1) := by decide +kernel
theorem dX2_through_106 : decode cX2_through 106 = .ok (.aload_n 0, 1) := by decide +kernel
theorem dX2_through_107 : decode cX2_through 107 = .ok (.getfield 59, 3) := by decide +kernel
theorem dX2_through_110 : decode cX2_through 110 = .ok (.iconst 5, 1) := by decide +kernel
theorem dX2_through_111 : decode cX2_through 111 = .ok (.iaload, 1) := by decide +kernel
theorem dX2_through_112 : decode cX2_through 112 = .ok (.iadd, 1) := by decide +kernel
theorem dX2_through_113 : decode cX2_through 113 = .ok (.istore 6, 2) := by decide +kernel
theorem dX2_through_115 : decode cX2_through 115 = .ok (.aload_n 0, 1) := by decide +kernel
theorem dX2_through_116 : decode cX2_through 116 = .ok (.getfield 53, 3) := by decide +kernel
theorem dX2_through_119 : decode cX2_through 119 = .ok (.iload 4, 2) := by decide +kernel
theorem dX2_through_121 : decode cX2_through 121 = .ok (.bipush 8, 2) := by decide +kernel
theorem dX2_through_123 : decode cX2_through 123 = .ok (.iadd, 1) := by decide +kernel
theorem dX2_through_124 : decode cX2_through 124 = .ok (.iaload, 1) := by decide +kernel
theorem dX2_through_125 : decode cX2_through 125 = .ok (.aload_n 0, 1) := by decide +kernel
theorem dX2_through_126 : decode cX2_through 126 = .ok (.getfield 50, 3) := by decide +kernel
theorem dX2_through_129 : decode cX2_through 129 = .ok (.iload 4, 2) := by decide +kernel
theorem dX2_through_131 : decode cX2_through 131 = .ok (.iconst 3, 1) := by decide +kernel
theorem dX2_through_132 : decode cX2_through 132 = .ok (.iadd, 1) := by decide +kernel
theorem dX2_through_133 : decode cX2_through 133 = .ok (.iaload, 1) := by decide +kernel
theorem dX2_through_134 : decode cX2_through 134 = .ok (.isub, 1) := by decide +kernel
theorem dX2_through_135 : decode cX2_through 135 = .ok (.aload_n 0, 1) := by decide +kernel
theorem dX2_through_136 : decode cX2_through 136 = .ok (.getfield 59, 3) := by decide +kernel
theorem dX2_through_139 : decode cX2_through 139 = .ok (.iconst 3, 1) := by decide +kernel
theorem dX2_through_140 : decode cX2_through 140 = .ok (.iaload, 1) := by decide +kernel
theorem dX2_through_141 : decode cX2_through 141 = .ok (.isub, 1) := by decide +kernel
theorem dX2_through_142 : decode cX2_through 142 = .ok (.aload_n 0, 1) := by decide +kernel
theorem dX2_through_143 : decode cX2_through 143 = .ok (.getfield 59, 3) := by decide +kernel
theorem dX2_through_146 : decode cX2_through 146 = .ok (.iconst 5, 1) := by decide +kernel
theorem dX2_through_147 : decode cX2_through 147 = .ok (.iaload, 1) := by decide +kernel
theorem dX2_through_148 : decode cX2_through 148 = .ok (.isub, 1) := by decide +kernel
theorem dX2_through_149 : decode cX2_through 149 = .ok (.istore 7, 2) := by decide +kernel
theorem dX2_through_151 : decode cX2_through 151 = .ok (.aload_n 0, 1) := by decide +kernel
theorem dX2_through_152 : decode cX2_through 152 = .ok (.getfield 53, 3) := by decide +kernel
theorem dX2_through_155 : decode cX2_through 155 = .ok (.iload 4, 2) := by decide +kernel
theorem dX2_through_157 : decode cX2_through 157 = .ok (.bipush 9, 2) := by decide +kernel
theorem dX2_through_159 : decode cX2_through 159 = .ok (.iadd, 1) := by decide +kernel
theorem dX2_through_160 : decode cX2_through 160 = .ok (.iaload, 1) := by decide +kernel
theorem dX2_through_161 : decode cX2_through 161 = .ok (.aload_n 0, 1) := by decide +kernel
theorem dX2_through_162 : decode cX2_through 162 = .ok (.getfield 50, 3) := by decide +kernel
theorem dX2_through_165 : decode cX2_through 165 = .ok (.iload 4, 2) := by decide +kernel
theorem dX2_through_167 : decode cX2_through 167 = .ok (.iconst 2, 1) := by decide +kernel
theorem dX2_through_168 : decode cX2_through 168 = .ok (.iadd, 1) := by decide +kernel
theorem dX2_through_169 : decode cX2_through 169 = .ok (.iaload, 1) := by decide +kernel
theorem dX2_through_170 : decode cX2_through 170 = .ok (.isub, 1) := by decide +kernel
theorem dX2_through_171 : decode cX2_through 171 = .ok (.aload_n 0, 1) := by decide +kernel
theorem dX2_through_172 : decode cX2_through 172 = .ok (.getfield 59, 3) := by decide +kernel
theorem dX2_through_175 : decode cX2_through 175 = .ok (.iconst 2, 1) := by decide +kernel
theorem dX2_through_176 : decode cX2_through 176 = .ok (.iaload, 1) := by decide +kernel
theorem dX2_through_177 : decode cX2_through 177 = .ok (.isub, 1) := by decide +kernel
theorem dX2_through_178 : decode cX2_through 178 = .ok (.aload_n 0, 1) := by decide +kernel
theorem dX2_through_179 : decode cX2_through 179 = .ok (.getfield 59, 3) := by decide +kernel
theorem dX2_through_182 : decode cX2_through 182 = .ok (.iconst 4, 1) := by decide +kernel
theorem dX2_through_183 : decode cX2_through 183 = .ok (.iaload, 1) := by decide +kernel
theorem dX2_through_184 : decode cX2_through 184 = .ok (.isub, 1) := by decide +kernel
theorem dX2_through_185 : decode cX2_through 185 = .ok (.istore 8, 2) := by decide +kernel
theorem dX2_through_187 : decode cX2_through 187 = .ok (.aload_n 0, 1) := by decide +kernel
theorem dX2_through_188 : decode cX2_through 188 = .ok (.getfield 53, 3) := by decide +kernel
theorem dX2_through_191 : decode cX2_through 191 = .ok (.iload 4, 2) := by decide +kernel
theorem dX2_through_193 : decode cX2_through 193 = .ok (.bipush 10, 2) := by decide +kernel
theorem dX2_through_195 : decode cX2_through 195 = .ok (.iadd, 1) := by decide +kernel
theorem dX2_through_196 : decode cX2_through 196 = .ok (.iaload, 1) := by decide +kernel
theorem dX2_through_197 : decode cX2_through 197 = .ok (.aload_n 0, 1) := by decide +kernel
theorem dX2_through_198 : decode cX2_through 198 = .ok (.getfield 50, 3) := by decide +kernel
theorem dX2_through_201 : decode cX2_through 201 = .ok (.iload 4, 2) := by decide +kernel
theorem dX2_through_203 : decode cX2_through 203 = .ok (.iconst 5, 1) := by decide +kernel
theorem dX2_through_204 : decode cX2_through 204 = .ok (.iadd, 1) := by decide +kernel
theorem dX2_through_205 : decode cX2_through 205 = .ok (.iaload, 1) := by decide +kernel
theorem dX2_through_206 : decode cX2_through 206 = .ok (.isub, 1) := by decide +kernel
theorem dX2_through_207 : decode cX2_through 207 = .ok (.aload_n 0, 1) := by decide +kernel
theorem dX2_through_208 : decode cX2_through 208 = .ok (.getfield 59, 3) := by decide +kernel
theorem dX2_through_211 : decode cX2_through 211 = .ok (.iconst 1, 1) := by decide +kernel
theorem dX2_through_212 : decode cX2_through 212 = .ok (.iaload, 1) := by decide +kernel
theorem dX2_through_213 : decode cX2_through 213 = .ok (.isub, 1) := by decide +kernel
theorem dX2_through_214 : decode cX2_through 214 = .ok (.aload_n 0, 1) := by decide +kernel
theorem dX2_through_215 : decode cX2_through 215 = .ok (.getfield 59, 3) := by decide +kernel
theorem dX2_through_218 : decode cX2_through 218 = .ok (.iconst 3, 1) := by decide +kernel
theorem dX2_through_219 : decode cX2_through 219 = .ok (.iaload, 1) := by decide +kernel
theorem dX2_through_220 : decode cX2_through 220 = .ok (.isub, 1) := by decide +kernel
theorem dX2_through_221 : decode cX2_through 221 = .ok (.istore 9, 2) := by decide +kernel
theorem dX2_through_223 : decode cX2_through 223 = .ok (.aload_n 0, 1) := by decide +kernel
theorem dX2_through_224 : decode cX2_through 224 = .ok (.getfield 53, 3) := by decide +kernel
theorem dX2_through_227 : decode cX2_through 227 = .ok (.iload 4, 2) := by decide +kernel
theorem dX2_through_229 : decode cX2_through 229 = .ok (.bipush 11, 2) := by decide +kernel
theorem dX2_through_231 : decode cX2_through 231 = .ok (.iadd, 1) := by decide +kernel
theorem dX2_through_232 : decode cX2_through 232 = .ok (.iaload, 1) := by decide +kernel
theorem dX2_through_233 : decode cX2_through 233 = .ok (.aload_n 0, 1) := by decide +kernel
theorem dX2_through_234 : decode cX2_through 234 = .ok (.getfield 50, 3) := by decide +kernel
theorem dX2_through_237 : decode cX2_through 237 = .ok (.iload 4, 2) := by decide +kernel
theorem dX2_through_239 : decode cX2_through 239 = .ok (.iconst 4, 1) := by decide +kernel
theorem dX2_through_240 : decode cX2_through 240 = .ok (.iadd, 1) := by decide +kernel
theorem dX2_through_241 : decode cX2_through 241 = .ok (.iaload, 1) := by decide +kernel
theorem dX2_through_242 : decode cX2_through 242 = .ok (.isub, 1) := by decide +kernel
theorem dX2_through_243 : decode cX2_through 243 = .ok (.aload_n 0, 1) := by decide +kernel
theorem dX2_through_244 : decode cX2_through 244 = .ok (.getfield 59, 3) := by decide +kernel
theorem dX2_through_247 : decode cX2_through 247 = .ok (.iconst 0, 1) := by decide +kernel
theorem dX2_through_248 : decode cX2_through 248 = .ok (.iaload, 1) := by decide +kernel
theorem dX2_through_249 : decode cX2_through 249 = .ok (.isub, 1) := by decide +kernel
theorem dX2_through_250 : decode cX2_through 250 = .ok (.aload_n 0, 1) := by decide +kernel
theorem dX2_through_251 : decode cX2_through 251 = .ok (.getfield 59, 3) := by decide +kernel
theorem dX2_through_254 : decode cX2_through 254 = .ok (.iconst 2, 1) := by decide +kernel
theorem dX2_through_255 : decode cX2_through 255 = .ok (.iaload, 1) := by decide +kernel
theorem dX2_through_256 : decode cX2_through 256 = .ok (.isub, 1) := by decide +kernel
theorem dX2_through_257 : decode cX2_through 257 = .ok (.istore 10, 2) := by decide +kernel
theorem dX2_through_259 : decode cX2_through 259 = .ok (.aload_n 0, 1) := by decide +kernel
theorem dX2_through_260 : decode cX2_through 260 = .ok (.iload_n 1, 1) := by decide +kernel
theorem dX2_through_261 : decode cX2_through 261 = .ok (.iload_n 2, 1) := by decide +kernel
theorem dX2_through_262 : decode cX2_through 262 = .ok (.invokevirtual 92, 3) := by decide +kernel
theorem dX2_through_265 : decode cX2_through 265 = .ok (.istore 11, 2) := by decide +kernel
theorem dX2_through_267 : decode cX2_through 267 = .ok (.aload_n 0, 1) := by decide +kernel
theorem dX2_through_268 : decode cX2_through 268 = .ok (.iload_n 1, 1) := by decide +kernel
theorem dX2_through_269 : decode cX2_through 269 = .ok (.iload_n 2, 1) := by decide +kernel
theorem dX2_through_270 : decode cX2_through 270 = .ok (.invokevirtual 95, 3) := by decide +kernel
theorem dX2_through_273 : decode cX2_through 273 = .ok (.istore 12, 2) := by decide +kernel
theorem dX2_through_275 : decode cX2_through 275 = .ok (.aload_n 0, 1) := by decide +kernel
theorem dX2_through_276 : decode cX2_through 276 = .ok (.getfield 13, 3) := by decide +kernel
theorem dX2_through_279 : decode cX2_through 279 = .ok (.iload_n 1, 1) := by decide +kernel
theorem dX2_through_280 : decode cX2_through 280 = .ok (.iaload, 1) := by decide +kernel
theorem dX2_through_281 : decode cX2_through 281 = .ok (.ifCond .ne 34, 3) := by decide +kernel
theorem dX2_through_284 : decode cX2_through 284 = .ok (.iload 11, 2) := by decide +kernel
theorem dX2_through_286 : decode cX2_through 286 = .ok (.iload 5, 2) := by decide +kernel
theorem dX2_through_288 : decode cX2_through 288 = .ok (.iload 9, 2) := by decide +kernel
theorem dX2_through_290 : decode cX2_through 290 = .ok (.invokestatic 82, 3) := by decide +kernel
theorem dX2_through_293 : decode cX2_through 293 = .ok (.invokestatic 82, 3) := by decide +kernel
theorem dX2_through_296 : decode cX2_through 296 = .ok (.istore 11, 2) := by decide +kernel
theorem dX2_through_298 : decode cX2_through 298 = .ok (.iload 12, 2) := by decide +kernel
theorem dX2_through_300 : decode cX2_through 300 = .ok (.iload 6, 2) := by decide +kernel
theorem dX2_through_302 : decode cX2_through 302 = .ok (.iload 10, 2) := by decide +kernel
theorem dX2_through_304 : decode cX2_through 304 = .ok (.invokestatic 98, 3) := by decide +kernel
theorem dX2_through_307 : decode cX2_through 307 = .ok (.invokestatic 98, 3) := by decide +kernel
theorem dX2_through_310 : decode cX2_through 310 = .ok (.istore 12, 2) := by decide +kernel
theorem dX2_through_312 : decode cX2_through 312 = .ok (.goto 74, 3) := by decide +kernel
theorem dX2_through_315 : decode cX2_through 315 = .ok (.aload_n 0, 1) := by decide +kernel
theorem dX2_through_316 : decode cX2_through 316 = .ok (.getfield 13, 3) := by decide +kernel
theorem dX2_through_319 : decode cX2_through 319 = .ok (.iload_n 1, 1) := by decide +kernel
theorem dX2_through_320 : decode cX2_through 320 = .ok (.iaload, 1) := by decide +kernel
theorem dX2_through_321 : decode cX2_through 321 = .ok (.iconst 1, 1) := by decide +kernel
theorem dX2_through_322 : decode cX2_through 322 = .ok (.if_icmp .ne 34, 3) := by decide +kernel
theorem dX2_through_325 : decode cX2_through 325 = .ok (.iload 11, 2) := by decide +kernel
theorem dX2_through_327 : decode cX2_through 327 = .ok (.iload 7, 2) := by decide +kernel
theorem dX2_through_329 : decode cX2_through 329 = .ok (.iload 9, 2) := by decide +kernel
theorem dX2_through_331 : decode cX2_through 331 = .ok (.invokestatic 82, 3) := by decide +kernel
theorem dX2_through_334 : decode cX2_through 334 = .ok (.invokestatic 82, 3) := by decide +kernel
theorem dX2_through_337 : decode cX2_through 337 = .ok (.istore 11, 2) := by decide +kernel
theorem dX2_through_339 : decode cX2_through 339 = .ok (.iload 12, 2) := by decide +kernel
theorem dX2_through_341 : decode cX2_through 341 = .ok (.iload 8, 2) := by decide +kernel
theorem dX2_through_343 : decode cX2_through 343 = .ok (.iload 10, 2) := by decide +kernel
theorem dX2_through_345 : decode cX2_through 345 = .ok (.invokestatic 98, 3) := by decide +kernel
theorem dX2_through_348 : decode cX2_through 348 = .ok (.invokestatic 98, 3) := by decide +kernel
theorem dX2_through_351 : decode cX2_through 351 = .ok (.istore 12, 2) := by decide +kernel
theorem dX2_through_353 : decode cX2_through 353 = .ok (.goto 33, 3) := by decide +kernel
theorem dX2_through_356 : decode cX2_through 356 = .ok (.iload 11, 2) := by decide +kernel
theorem dX2_through_358 : decode cX2_through 358 = .ok (.iload 7, 2) := by decide +kernel
theorem dX2_through_360 : decode cX2_through 360 = .ok (.iload 6, 2) := by decide +kernel
theorem dX2_through_362 : decode cX2_through 362 = .ok (.ineg, 1) := by decide +kernel
theorem dX2_through_363 : decode cX2_through 363 = .ok (.invokestatic 82, 3) := by decide +kernel
theorem dX2_through_366 : decode cX2_through 366 = .ok (.invokestatic 82, 3) := by decide +kernel
theorem dX2_through_369 : decode cX2_through 369 = .ok (.istore 11, 2) := by decide +kernel
theorem dX2_through_371 : decode cX2_through 371 = .ok (.iload 12, 2) := by decide +kernel
theorem dX2_through_373 : decode cX2_through 373 = .ok (.iload 8, 2) := by decide +kernel
theorem dX2_through_375 : decode cX2_through 375 = .ok (.iload 5, 2) := by decide +kernel
theorem dX2_through_377 : decode cX2_through 377 = .ok (.ineg, 1) := by decide +kernel
theorem dX2_through_378 : decode cX2_through 378 = .ok (.invokestatic 98, 3) := by decide +kernel
theorem dX2_through_381 : decode cX2_through 381 = .ok (.invokestatic 98, 3) := by decide +kernel
theorem dX2_through_384 : decode cX2_through 384 = .ok (.istore 12, 2) := by decide +kernel
theorem dX2_through_386 : decode cX2_through 386 = .ok (.iload_n 3, 1) := by decide +kernel
theorem dX2_through_387 : decode cX2_through 387 = .ok (.ifCond .eq 8, 3) := by decide +kernel
theorem dX2_through_390 : decode cX2_through 390 = .ok (.iload 12, 2) := by decide +kernel
theorem dX2_through_392 : decode cX2_through 392 = .ok (.goto 5, 3) := by decide +kernel
theorem dX2_through_395 : decode cX2_through 395 = .ok (.iload 11, 2) := by decide +kernel
theorem dX2_through_397 : decode cX2_through 397 = .ok (.ireturn, 1) := by decide +kernel
set_option maxRecDepth 20000 in
theorem ggX2_worse_X2_forward : GoodIn wsX2_worse wsX2_forward := goodIn_r _ [7, 8, 9, 10, 11, 12, 13, 14, 15, 6, 16, 17, 18, 19, 20, 21, 22, 23, 24, 25, 26, 27, 28, 29, 30, 31, 32, 33, 34, 35, 36, 37, 38, 39, 40, 41, 42, 43, 44, 45, 46, 47, 48, 2, 49, 50, 51, 52, 53, 54, 55, 56, 57, 58, 59, 60, 61, 62, 63, 64, 65, 66, 67, 68, 69, 70, 71, 72, 73, 74, 75, 76, 77, 78, 79] (by decide +kernel) (by decide +kernel)
set_option maxRecDepth 20000 in
theorem gX2_worse_X2_forward : GoodIn wsX2_worse (wsV RX2 113 RX2 yX2_forward wsX2_forward) := goodIn_app (goodIn_of _ (by decide +kernel)) ggX2_worse_X2_forward
theorem dX2_worse_0 : decode cX2_worse 0 = .ok (.aload_n 0, 1) := by decide +kernel
theorem dX2_worse_1 : decode cX2_worse 1 = .ok (.iconst 0, 1) := by decide +kernel
theorem dX2_worse_2 : decode cX2_worse 2 = .ok (.putfield 66, 3) := by decide +kernel
theorem dX2_worse_5 : decode cX2_worse 5 = .ok (.iconst 0, 1) := by decide +kernel
theorem dX2_worse_6 : decode cX2_worse 6 = .ok (.istore_n 1, 1) := by decide +kernel
theorem dX2_worse_7 : decode cX2_worse 7 = .ok (.iload_n 1, 1) := by decide +kernel
theorem dX2_worse_8 : decode cX2_worse 8 = .ok (.bipush 6, 2) := by decide +kernel
theorem dX2_worse_10 : decode cX2_worse 10 = .ok (.if_icmp .ge 23, 3) := by decide +kernel
theorem dX2_worse_13 : decode cX2_worse 13 = .ok (.aload_n 0, 1) := by decide +kernel
theorem dX2_worse_14 : decode cX2_worse 14 = .ok (.iload_n 1, 1) := by decide +kernel
theorem dX2_worse_15 : decode cX2_worse 15 = .ok (.putfield 79, 3) := by decide +kernel
theorem dX2_worse_18 : decode cX2_worse 18 = .ok (.aload_n 0, 1) := by decide +kernel
theorem dX2_worse_19 : decode cX2_worse 19 = .ok (.invokevirtual 113, 3) := by decide +kernel
theorem dX2_worse_22 : decode cX2_worse 22 = .ok (.ifCond .ge 5, 3) := by decide +kernel
theorem dX2_worse_25 : decode cX2_worse 25 = .ok (.iload_n 1, 1) := by decide +kernel
theorem dX2_worse_26 : decode cX2_worse 26 = .ok (.ireturn, 1) := by decide +kernel
theorem dX2_worse_27 : decode cX2_worse 27 = .ok (.iinc 1 1, 3) := by decide +kernel
theorem dX2_worse_30 : decode cX2_worse 30 = .ok (.goto (-23), 3) := by decide +kernel
theorem dX2_worse_33 : decode cX2_worse 33 = .ok (.iconst (-1), 1) := by decide +kernel
theorem dX2_worse_34 : decode cX2_worse 34 = .ok (.ireturn, 1) := by decide +kernel
set_option maxRecDepth 20000 in
theorem ggX2_quarrel_X2_forward : GoodIn wsX2_quarrel wsX2_forward := goodIn_r _ [7, 8, 9, 10, 11, 12, 13, 14, 15, 6, 16, 17, 18, 19, 20, 21, 22, 23, 24, 25, 26, 27, 28, 29, 30, 31, 32, 33, 34, 35, 36, 37, 38, 39, 40, 41, 42, 43, 44, 45, 46, 47, 48, 2, 49, 50, 51, 52, 53, 54, 55, 56, 57, 58, 59, 60, 61, 62, 63, 64, 65, 66, 67, 68, 69, 70, 71, 72, 73, 74, 75, 76, 77, 78, 79] (by decide +kernel) (by decide +kernel)
set_option maxRecDepth 20000 in
theorem gX2_quarrel_X2_forward : GoodIn wsX2_quarrel (wsV RX2 113 RX2 yX2_forward wsX2_forward) := goodIn_app (goodIn_of _ (by decide +kernel)) ggX2_quarrel_X2_forward
theorem dX2_quarrel_0 : decode cX2_quarrel 0 = .ok (.aload_n 0, 1) := by decide +kernel
theorem dX2_quarrel_1 : decode cX2_quarrel 1 = .ok (.iconst 0, 1) := by decide +kernel
theorem dX2_quarrel_2 : decode cX2_quarrel 2 = .ok (.putfield 66, 3) := by decide +kernel
theorem dX2_quarrel_5 : decode cX2_quarrel 5 = .ok (.aload_n 0, 1) := by decide +kernel
theorem dX2_quarrel_6 : decode cX2_quarrel 6 = .ok (.iconst 0, 1) := by decide +kernel
theorem dX2_quarrel_7 : decode cX2_quarrel 7 = .ok (.putfield 79, 3) := by decide +kernel
theorem dX2_quarrel_10 : decode cX2_quarrel 10 = .ok (.aload_n 0, 1) := by decide +kernel
theorem dX2_quarrel_11 : decode cX2_quarrel 11 = .ok (.invokevirtual 113, 3) := by decide +kernel
theorem dX2_quarrel_14 : decode cX2_quarrel 14 = .ok (.ireturn, 1) := by decide +kernel
set_option maxRecDepth 20000 in
theorem ggX2_look_X2_fails : GoodIn wsX2_look wsX2_fails := goodIn_r _ [14, 1, 15, 16, 17, 18, 19, 20, 21, 22, 23, 24, 25, 26, 27, 28, 29, 30, 31, 32, 33, 34, 35] (by decide +kernel) (by decide +kernel)
set_option maxRecDepth 20000 in
theorem gX2_look_X2_fails : GoodIn wsX2_look (wsV RX2 120 RX2 yX2_fails wsX2_fails) := goodIn_app (goodIn_of _ (by decide +kernel)) ggX2_look_X2_fails
theorem dX2_look_0 : decode cX2_look 0 = .ok (.aload_n 0, 1) := by decide +kernel
theorem dX2_look_1 : decode cX2_look 1 = .ok (.iconst 0, 1) := by decide +kernel
theorem dX2_look_2 : decode cX2_look 2 = .ok (.putfield 66, 3) := by decide +kernel
theorem dX2_look_5 : decode cX2_look 5 = .ok (.iload_n 1, 1) := by decide +kernel
theorem dX2_look_6 : decode cX2_look 6 = .ok (.ifCond .lt 11, 3) := by decide +kernel
theorem dX2_look_9 : decode cX2_look 9 = .ok (.iload_n 1, 1) := by decide +kernel
theorem dX2_look_10 : decode cX2_look 10 = .ok (.aload_n 0, 1) := by decide +kernel
theorem dX2_look_11 : decode cX2_look 11 = .ok (.getfield 69, 3) := by decide +kernel
theorem dX2_look_14 : decode cX2_look 14 = .ok (.if_icmp .lt 9, 3) := by decide +kernel
theorem dX2_look_17 : decode cX2_look 17 = .ok (.aload_n 0, 1) := by decide +kernel
theorem dX2_look_18 : decode cX2_look 18 = .ok (.iconst 1, 1) := by decide +kernel
theorem dX2_look_19 : decode cX2_look 19 = .ok (.invokevirtual 120, 3) := by decide +kernel
theorem dX2_look_22 : decode cX2_look 22 = .ok (.ireturn, 1) := by decide +kernel
theorem dX2_look_23 : decode cX2_look 23 = .ok (.iconst 0, 1) := by decide +kernel
theorem dX2_look_24 : decode cX2_look 24 = .ok (.istore_n 3, 1) := by decide +kernel
theorem dX2_look_25 : decode cX2_look 25 = .ok (.iload_n 2, 1) := by decide +kernel
theorem dX2_look_26 : decode cX2_look 26 = .ok (.tableswitch 152 0 6 #[42, 49, 56, 63, 70, 70, 70], 42) := by decide +kernel
theorem dX2_look_68 : decode cX2_look 68 = .ok (.aload_n 0, 1) := by decide +kernel
theorem dX2_look_69 : decode cX2_look 69 = .ok (.getfield 13, 3) := by decide +kernel
theorem dX2_look_72 : decode cX2_look 72 = .ok (.iload_n 1, 1) := by decide +kernel
theorem dX2_look_73 : decode cX2_look 73 = .ok (.iaload, 1) := by decide +kernel
theorem dX2_look_74 : decode cX2_look 74 = .ok (.ireturn, 1) := by decide +kernel
theorem dX2_look_75 : decode cX2_look 75 = .ok (.aload_n 0, 1) := by decide +kernel
theorem dX2_look_76 : decode cX2_look 76 = .ok (.getfield 17, 3) := by decide +kernel
theorem dX2_look_79 : decode cX2_look 79 = .ok (.iload_n 1, 1) := by decide +kernel
theorem dX2_look_80 : decode cX2_look 80 = .ok (.iaload, 1) := by decide +kernel
theorem dX2_look_81 : decode cX2_look 81 = .ok (.ireturn, 1) := by decide +kernel
theorem dX2_look_82 : decode cX2_look 82 = .ok (.aload_n 0, 1) := by decide +kernel
theorem dX2_look_83 : decode cX2_look 83 = .ok (.getfield 20, 3) := by decide +kernel
theorem dX2_look_86 : decode cX2_look 86 = .ok (.iload_n 1, 1) := by decide +kernel
theorem dX2_look_87 : decode cX2_look 87 = .ok (.iaload, 1) := by decide +kernel
theorem dX2_look_88 : decode cX2_look 88 = .ok (.ireturn, 1) := by decide +kernel
theorem dX2_look_89 : decode cX2_look 89 = .ok (.aload_n 0, 1) := by decide +kernel
theorem dX2_look_90 : decode cX2_look 90 = .ok (.getfield 23, 3) := by decide +kernel
theorem dX2_look_93 : decode cX2_look 93 = .ok (.iload_n 1, 1) := by decide +kernel
theorem dX2_look_94 : decode cX2_look 94 = .ok (.iaload, 1) := by decide +kernel
theorem dX2_look_95 : decode cX2_look 95 = .ok (.ireturn, 1) := by decide +kernel
theorem dX2_look_96 : decode cX2_look 96 = .ok (.iconst 0, 1) := by decide +kernel
theorem dX2_look_97 : decode cX2_look 97 = .ok (.istore 4, 2) := by decide +kernel
theorem dX2_look_99 : decode cX2_look 99 = .ok (.iload 4, 2) := by decide +kernel
theorem dX2_look_101 : decode cX2_look 101 = .ok (.aload_n 0, 1) := by decide +kernel
theorem dX2_look_102 : decode cX2_look 102 = .ok (.getfield 7, 3) := by decide +kernel
theorem dX2_look_105 : decode cX2_look 105 = .ok (.if_icmp .ge 71, 3) := by decide +kernel
theorem dX2_look_108 : decode cX2_look 108 = .ok (.aload_n 0, 1) := by decide +kernel
theorem dX2_look_109 : decode cX2_look 109 = .ok (.getfield 26, 3) := by decide +kernel
theorem dX2_look_112 : decode cX2_look 112 = .ok (.bipush 60, 2) := by decide +kernel
theorem dX2_look_114 : decode cX2_look 114 = .ok (.iload_n 1, 1) := by decide +kernel
theorem dX2_look_115 : decode cX2_look 115 = .ok (.imul, 1) := by decide +kernel
theorem dX2_look_116 : decode cX2_look 116 = .ok (.iload 4, 2) := by decide +kernel
theorem dX2_look_118 : decode cX2_look 118 = .ok (.iadd, 1) := by decide +kernel
theorem dX2_look_119 : decode cX2_look 119 = .ok (.iaload, 1) := by decide +kernel
theorem dX2_look_120 : decode cX2_look 120 = .ok (.ifCond .ge 6, 3) := by decide +kernel
theorem dX2_look_123 : decode cX2_look 123 = .ok (.goto 47, 3) := by decide +kernel
theorem dX2_look_126 : decode cX2_look 126 = .ok (.iload_n 3, 1) := by decide +kernel
theorem dX2_look_127 : decode cX2_look 127 = .ok (.iload_n 2, 1) := by decide +kernel
theorem dX2_look_128 : decode cX2_look 128 = .ok (.iconst 4, 1) := by decide +kernel
theorem dX2_look_129 : decode cX2_look 129 = .ok (.if_icmp .ne 7, 3) := by decide +kernel
theorem dX2_look_132 : decode cX2_look 132 = .ok (.iconst 1, 1) := by decide +kernel
theorem dX2_look_133 : decode cX2_look 133 = .ok (.goto 35, 3) := by decide +kernel
theorem dX2_look_136 : decode cX2_look 136 = .ok (.iload_n 2, 1) := by decide +kernel
theorem dX2_look_137 : decode cX2_look 137 = .ok (.iconst 5, 1) := by decide +kernel
theorem dX2_look_138 : decode cX2_look 138 = .ok (.if_icmp .ne 18, 3) := by decide +kernel
theorem dX2_look_141 : decode cX2_look 141 = .ok (.aload_n 0, 1) := by decide +kernel
theorem dX2_look_142 : decode cX2_look 142 = .ok (.getfield 26, 3) := by decide +kernel
theorem dX2_look_145 : decode cX2_look 145 = .ok (.bipush 60, 2) := by decide +kernel
theorem dX2_look_147 : decode cX2_look 147 = .ok (.iload_n 1, 1) := by decide +kernel
theorem dX2_look_148 : decode cX2_look 148 = .ok (.imul, 1) := by decide +kernel
theorem dX2_look_149 : decode cX2_look 149 = .ok (.iload 4, 2) := by decide +kernel
theorem dX2_look_151 : decode cX2_look 151 = .ok (.iadd, 1) := by decide +kernel
theorem dX2_look_152 : decode cX2_look 152 = .ok (.iaload, 1) := by decide +kernel
theorem dX2_look_153 : decode cX2_look 153 = .ok (.goto 15, 3) := by decide +kernel
theorem dX2_look_156 : decode cX2_look 156 = .ok (.aload_n 0, 1) := by decide +kernel
theorem dX2_look_157 : decode cX2_look 157 = .ok (.getfield 29, 3) := by decide +kernel
theorem dX2_look_160 : decode cX2_look 160 = .ok (.bipush 60, 2) := by decide +kernel
theorem dX2_look_162 : decode cX2_look 162 = .ok (.iload_n 1, 1) := by decide +kernel
theorem dX2_look_163 : decode cX2_look 163 = .ok (.imul, 1) := by decide +kernel
theorem dX2_look_164 : decode cX2_look 164 = .ok (.iload 4, 2) := by decide +kernel
theorem dX2_look_166 : decode cX2_look 166 = .ok (.iadd, 1) := by decide +kernel
theorem dX2_look_167 : decode cX2_look 167 = .ok (.iaload, 1) := by decide +kernel
theorem dX2_look_168 : decode cX2_look 168 = .ok (.iadd, 1) := by decide +kernel
theorem dX2_look_169 : decode cX2_look 169 = .ok (.istore_n 3, 1) := by decide +kernel
theorem dX2_look_170 : decode cX2_look 170 = .ok (.iinc 4 1, 3) := by decide +kernel
theorem dX2_look_173 : decode cX2_look 173 = .ok (.goto (-74), 3) := by decide +kernel
theorem dX2_look_176 : decode cX2_look 176 = .ok (.iload_n 3, 1) := by decide +kernel
theorem dX2_look_177 : decode cX2_look 177 = .ok (.ireturn, 1) := by decide +kernel
theorem dX2_look_178 : decode cX2_look 178 = .ok (.aload_n 0, 1) := by decide +kernel
theorem dX2_look_179 : decode cX2_look 179 = .ok (.iconst 2, 1) := by decide +kernel
theorem dX2_look_180 : decode cX2_look 180 = .ok (.invokevirtual 120, 3) := by decide +kernel
theorem dX2_look_183 : decode cX2_look 183 = .ok (.ireturn, 1) := by decide +kernel
theorem dX2_count_0 : decode cX2_count 0 = .ok (.aload_n 0, 1) := by decide +kernel
theorem dX2_count_1 : decode cX2_count 1 = .ok (.iconst 0, 1) := by decide +kernel
theorem dX2_count_2 : decode cX2_count 2 = .ok (.putfield 66, 3) := by decide +kernel
theorem dX2_count_5 : decode cX2_count 5 = .ok (.iconst 0, 1) := by decide +kernel
theorem dX2_count_6 : decode cX2_count 6 = .ok (.istore_n 2, 1) := by decide +kernel
theorem dX2_count_7 : decode cX2_count 7 = .ok (.iload_n 1, 1) := by decide +kernel
theorem dX2_count_8 : decode cX2_count 8 = .ok (.tableswitch 106 0 3 #[32, 37, 42, 47], 32) := by decide +kernel
theorem dX2_count_40 : decode cX2_count 40 = .ok (.aload_n 0, 1) := by decide +kernel
theorem dX2_count_41 : decode cX2_count 41 = .ok (.getfield 7, 3) := by decide +kernel
theorem dX2_count_44 : decode cX2_count 44 = .ok (.ireturn, 1) := by decide +kernel
theorem dX2_count_45 : decode cX2_count 45 = .ok (.aload_n 0, 1) := by decide +kernel
theorem dX2_count_46 : decode cX2_count 46 = .ok (.getfield 69, 3) := by decide +kernel
theorem dX2_count_49 : decode cX2_count 49 = .ok (.ireturn, 1) := by decide +kernel
theorem dX2_count_50 : decode cX2_count 50 = .ok (.aload_n 0, 1) := by decide +kernel
theorem dX2_count_51 : decode cX2_count 51 = .ok (.getfield 72, 3) := by decide +kernel
theorem dX2_count_54 : decode cX2_count 54 = .ok (.ireturn, 1) := by decide +kernel
theorem dX2_count_55 : decode cX2_count 55 = .ok (.iconst 0, 1) := by decide +kernel
theorem dX2_count_56 : decode cX2_count 56 = .ok (.istore_n 3, 1) := by decide +kernel
theorem dX2_count_57 : decode cX2_count 57 = .ok (.iload_n 3, 1) := by decide +kernel
theorem dX2_count_58 : decode cX2_count 58 = .ok (.aload_n 0, 1) := by decide +kernel
theorem dX2_count_59 : decode cX2_count 59 = .ok (.getfield 69, 3) := by decide +kernel
theorem dX2_count_62 : decode cX2_count 62 = .ok (.if_icmp .ge 50, 3) := by decide +kernel
theorem dX2_count_65 : decode cX2_count 65 = .ok (.iconst 0, 1) := by decide +kernel
theorem dX2_count_66 : decode cX2_count 66 = .ok (.istore 4, 2) := by decide +kernel
theorem dX2_count_68 : decode cX2_count 68 = .ok (.iload 4, 2) := by decide +kernel
theorem dX2_count_70 : decode cX2_count 70 = .ok (.aload_n 0, 1) := by decide +kernel
theorem dX2_count_71 : decode cX2_count 71 = .ok (.getfield 7, 3) := by decide +kernel
theorem dX2_count_74 : decode cX2_count 74 = .ok (.if_icmp .ge 32, 3) := by decide +kernel
theorem dX2_count_77 : decode cX2_count 77 = .ok (.iload_n 2, 1) := by decide +kernel
theorem dX2_count_78 : decode cX2_count 78 = .ok (.aload_n 0, 1) := by decide +kernel
theorem dX2_count_79 : decode cX2_count 79 = .ok (.getfield 26, 3) := by decide +kernel
theorem dX2_count_82 : decode cX2_count 82 = .ok (.bipush 60, 2) := by decide +kernel
theorem dX2_count_84 : decode cX2_count 84 = .ok (.iload_n 3, 1) := by decide +kernel
theorem dX2_count_85 : decode cX2_count 85 = .ok (.imul, 1) := by decide +kernel
theorem dX2_count_86 : decode cX2_count 86 = .ok (.iload 4, 2) := by decide +kernel
theorem dX2_count_88 : decode cX2_count 88 = .ok (.iadd, 1) := by decide +kernel
theorem dX2_count_89 : decode cX2_count 89 = .ok (.iaload, 1) := by decide +kernel
theorem dX2_count_90 : decode cX2_count 90 = .ok (.ifCond .lt 7, 3) := by decide +kernel
theorem dX2_count_93 : decode cX2_count 93 = .ok (.iconst 1, 1) := by decide +kernel
theorem dX2_count_94 : decode cX2_count 94 = .ok (.goto 4, 3) := by decide +kernel
theorem dX2_count_97 : decode cX2_count 97 = .ok (.iconst 0, 1) := by decide +kernel
theorem dX2_count_98 : decode cX2_count 98 = .ok (.iadd, 1) := by decide +kernel
theorem dX2_count_99 : decode cX2_count 99 = .ok (.istore_n 2, 1) := by decide +kernel
theorem dX2_count_100 : decode cX2_count 100 = .ok (.iinc 4 1, 3) := by decide +kernel
theorem dX2_count_103 : decode cX2_count 103 = .ok (.goto (-35), 3) := by decide +kernel
theorem dX2_count_106 : decode cX2_count 106 = .ok (.iinc 3 1, 3) := by decide +kernel
theorem dX2_count_109 : decode cX2_count 109 = .ok (.goto (-52), 3) := by decide +kernel
theorem dX2_count_112 : decode cX2_count 112 = .ok (.iload_n 2, 1) := by decide +kernel
theorem dX2_count_113 : decode cX2_count 113 = .ok (.ireturn, 1) := by decide +kernel
theorem dX2_count_114 : decode cX2_count 114 = .ok (.iconst (-1), 1) := by decide +kernel
theorem dX2_count_115 : decode cX2_count 115 = .ok (.ireturn, 1) := by decide +kernel
theorem dJ9_max_7cf53_0 : decode cJ9_max_7cf53 0 = .ok (.iload_n 0, 1) := by decide +kernel
theorem dJ9_max_7cf53_1 : decode cJ9_max_7cf53 1 = .ok (.iload_n 1, 1) := by decide +kernel
theorem dJ9_max_7cf53_2 : decode cJ9_max_7cf53 2 = .ok (.if_icmp .lt 7, 3) := by decide +kernel
theorem dJ9_max_7cf53_5 : decode cJ9_max_7cf53 5 = .ok (.iload_n 0, 1) := by decide +kernel
theorem dJ9_max_7cf53_6 : decode cJ9_max_7cf53 6 = .ok (.goto 4, 3) := by decide +kernel
theorem dJ9_max_7cf53_9 : decode cJ9_max_7cf53 9 = .ok (.iload_n 1, 1) := by decide +kernel
theorem dJ9_max_7cf53_10 : decode cJ9_max_7cf53 10 = .ok (.ireturn, 1) := by decide +kernel
theorem dJ9_min_7cf53_0 : decode cJ9_min_7cf53 0 = .ok (.iload_n 0, 1) := by decide +kernel
theorem dJ9_min_7cf53_1 : decode cJ9_min_7cf53 1 = .ok (.iload_n 1, 1) := by decide +kernel
theorem dJ9_min_7cf53_2 : decode cJ9_min_7cf53 2 = .ok (.if_icmp .gt 7, 3) := by decide +kernel
theorem dJ9_min_7cf53_5 : decode cJ9_min_7cf53 5 = .ok (.iload_n 0, 1) := by decide +kernel
theorem dJ9_min_7cf53_6 : decode cJ9_min_7cf53 6 = .ok (.goto 4, 3) := by decide +kernel
theorem dJ9_min_7cf53_9 : decode cJ9_min_7cf53 9 = .ok (.iload_n 1, 1) := by decide +kernel
theorem dJ9_min_7cf53_10 : decode cJ9_min_7cf53 10 = .ok (.ireturn, 1) := by decide +kernel
theorem dJ7_fill_53178_0 : decode cJ7_fill_53178 0 = .ok (.iconst 0, 1) := by decide +kernel
theorem dJ7_fill_53178_1 : decode cJ7_fill_53178 1 = .ok (.istore_n 2, 1) := by decide +kernel
theorem dJ7_fill_53178_2 : decode cJ7_fill_53178 2 = .ok (.aload_n 0, 1) := by decide +kernel
theorem dJ7_fill_53178_3 : decode cJ7_fill_53178 3 = .ok (.arraylength, 1) := by decide +kernel
theorem dJ7_fill_53178_4 : decode cJ7_fill_53178 4 = .ok (.istore_n 3, 1) := by decide +kernel
theorem dJ7_fill_53178_5 : decode cJ7_fill_53178 5 = .ok (.iload_n 2, 1) := by decide +kernel
theorem dJ7_fill_53178_6 : decode cJ7_fill_53178 6 = .ok (.iload_n 3, 1) := by decide +kernel
theorem dJ7_fill_53178_7 : decode cJ7_fill_53178 7 = .ok (.if_icmp .ge 13, 3) := by decide +kernel
theorem dJ7_fill_53178_10 : decode cJ7_fill_53178 10 = .ok (.aload_n 0, 1) := by decide +kernel
theorem dJ7_fill_53178_11 : decode cJ7_fill_53178 11 = .ok (.iload_n 2, 1) := by decide +kernel
theorem dJ7_fill_53178_12 : decode cJ7_fill_53178 12 = .ok (.iload_n 1, 1) := by decide +kernel
theorem dJ7_fill_53178_13 : decode cJ7_fill_53178 13 = .ok (.iastore, 1) := by decide +kernel
theorem dJ7_fill_53178_14 : decode cJ7_fill_53178 14 = .ok (.iinc 2 1, 3) := by decide +kernel
theorem dJ7_fill_53178_17 : decode cJ7_fill_53178 17 = .ok (.goto (-12), 3) := by decide +kernel
theorem dJ7_fill_53178_20 : decode cJ7_fill_53178 20 = .ok (.return_, 1) := by decide +kernel
