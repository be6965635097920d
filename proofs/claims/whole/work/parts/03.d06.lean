theorem dX2_forward_256 : decode cX2_forward 256 = .ok (.iconst 4, 1) := by decide +kernel
theorem dX2_forward_257 : decode cX2_forward 257 = .ok (.iadd, 1) := by decide +kernel
theorem dX2_forward_258 : decode cX2_forward 258 = .ok (.iaload, 1) := by decide +kernel
theorem dX2_forward_259 : decode cX2_forward 259 = .ok (.aload_n 0, 1) := by decide +kernel
theorem dX2_forward_260 : decode cX2_forward 260 = .ok (.getfield 59, 3) := by decide +kernel
theorem dX2_forward_263 : decode cX2_forward 263 = .ok (.iconst 0, 1) := by decide +kernel
theorem dX2_forward_264 : decode cX2_forward 264 = .ok (.iaload, 1) := by decide +kernel
theorem dX2_forward_265 : decode cX2_forward 265 = .ok (.iadd, 1) := by decide +kernel
theorem dX2_forward_266 : decode cX2_forward 266 = .ok (.aload_n 0, 1) := by decide +kernel
theorem dX2_forward_267 : decode cX2_forward 267 = .ok (.getfield 59, 3) := by decide +kernel
theorem dX2_forward_270 : decode cX2_forward 270 = .ok (.iconst 2, 1) := by decide +kernel
theorem dX2_forward_271 : decode cX2_forward 271 = .ok (.iaload, 1) := by decide +kernel
theorem dX2_forward_272 : decode cX2_forward 272 = .ok (.iadd, 1) := by decide +kernel
theorem dX2_forward_273 : decode cX2_forward 273 = .ok (.iastore, 1) := by decide +kernel
theorem dX2_forward_274 : decode cX2_forward 274 = .ok (.aload_n 0, 1) := by decide +kernel
theorem dX2_forward_275 : decode cX2_forward 275 = .ok (.getfield 50, 3) := by decide +kernel
theorem dX2_forward_278 : decode cX2_forward 278 = .ok (.iload_n 2, 1) := by decide +kernel
theorem dX2_forward_279 : decode cX2_forward 279 = .ok (.bipush 11, 2) := by decide +kernel
theorem dX2_forward_281 : decode cX2_forward 281 = .ok (.iadd, 1) := by decide +kernel
theorem dX2_forward_282 : decode cX2_forward 282 = .ok (.aload_n 0, 1) := by decide +kernel
theorem dX2_forward_283 : decode cX2_forward 283 = .ok (.getfield 50, 3) := by decide +kernel
theorem dX2_forward_286 : decode cX2_forward 286 = .ok (.iload_n 2, 1) := by decide +kernel
theorem dX2_forward_287 : decode cX2_forward 287 = .ok (.iconst 5, 1) := by decide +kernel
theorem dX2_forward_288 : decode cX2_forward 288 = .ok (.iadd, 1) := by decide +kernel
theorem dX2_forward_289 : decode cX2_forward 289 = .ok (.iaload, 1) := by decide +kernel
theorem dX2_forward_290 : decode cX2_forward 290 = .ok (.aload_n 0, 1) := by decide +kernel
theorem dX2_forward_291 : decode cX2_forward 291 = .ok (.getfield 59, 3) := by decide +kernel
theorem dX2_forward_294 : decode cX2_forward 294 = .ok (.iconst 1, 1) := by decide +kernel
theorem dX2_forward_295 : decode cX2_forward 295 = .ok (.iaload, 1) := by decide +kernel
theorem dX2_forward_296 : decode cX2_forward 296 = .ok (.iadd, 1) := by decide +kernel
theorem dX2_forward_297 : decode cX2_forward 297 = .ok (.aload_n 0, 1) := by decide +kernel
theorem dX2_forward_298 : decode cX2_forward 298 = .ok (.getfield 59, 3) := by decide +kernel
theorem dX2_forward_301 : decode cX2_forward 301 = .ok (.iconst 3, 1) := by decide +kernel
theorem dX2_forward_302 : decode cX2_forward 302 = .ok (.iaload, 1) := by decide +kernel
theorem dX2_forward_303 : decode cX2_forward 303 = .ok (.iadd, 1) := by decide +kernel
theorem dX2_forward_304 : decode cX2_forward 304 = .ok (.iastore, 1) := by decide +kernel
theorem dX2_forward_305 : decode cX2_forward 305 = .ok (.aload_n 0, 1) := by decide +kernel
theorem dX2_forward_306 : decode cX2_forward 306 = .ok (.aload_n 0, 1) := by decide +kernel
theorem dX2_forward_307 : decode cX2_forward 307 = .ok (.getfield 50, 3) := by decide +kernel
theorem dX2_forward_310 : decode cX2_forward 310 = .ok (.iload_n 1, 1) := by decide +kernel
theorem dX2_forward_311 : decode cX2_forward 311 = .ok (.iconst 1, 1) := by decide +kernel
theorem dX2_forward_312 : decode cX2_forward 312 = .ok (.iadd, 1) := by decide +kernel
theorem dX2_forward_313 : decode cX2_forward 313 = .ok (.invokevirtual 105, 3) := by decide +kernel
theorem dX2_forward_316 : decode cX2_forward 316 = .ok (.ifCond .ne 7, 3) := by decide +kernel
theorem dX2_forward_319 : decode cX2_forward 319 = .ok (.iload_n 1, 1) := by decide +kernel
theorem dX2_forward_320 : decode cX2_forward 320 = .ok (.iconst 1, 1) := by decide +kernel
theorem dX2_forward_321 : decode cX2_forward 321 = .ok (.iadd, 1) := by decide +kernel
theorem dX2_forward_322 : decode cX2_forward 322 = .ok (.ireturn, 1) := by decide +kernel
theorem dX2_forward_323 : decode cX2_forward 323 = .ok (.iinc 1 1, 3) := by decide +kernel
theorem dX2_forward_326 : decode cX2_forward 326 = .ok (.goto (-224), 3) := by decide +kernel
theorem dX2_forward_329 : decode cX2_forward 329 = .ok (.iconst (-1), 1) := by decide +kernel
theorem dX2_forward_330 : decode cX2_forward 330 = .ok (.ireturn, 1) := by decide +kernel
set_option maxRecDepth 20000 in
theorem ggX2_backward_X2_holds : GoodIn wsX2_backward wsX2_holds := goodIn_r _ [9, 10, 11, 12, 13, 14, 15, 16, 8, 17, 18, 19, 20, 21, 22, 23, 24, 53, 54, 55, 56, 57, 58, 59, 60, 61, 62, 63, 64, 65, 66, 67, 68, 69, 70, 71, 72, 73] (by decide +kernel) (by decide +kernel)
set_option maxRecDepth 20000 in
theorem gX2_backward_X2_holds : GoodIn wsX2_backward (wsV RX2 105 RX2 yX2_holds wsX2_holds) := goodIn_app (goodIn_of _ (by decide +kernel)) ggX2_backward_X2_holds
set_option maxRecDepth 20000 in
theorem ggX2_backward_X2_moves : GoodIn wsX2_backward wsX2_moves := goodIn_r _ [28, 4, 29, 30, 31, 32, 33, 8, 34, 35, 36, 37, 38, 39, 40, 41, 42, 15, 16, 17, 43, 44, 45, 46, 47, 48, 49, 50, 51, 52, 53, 54, 55, 56, 57, 58, 59, 60, 61, 62, 63, 64, 65, 66, 67, 68, 69, 70, 71, 72, 73] (by decide +kernel) (by decide +kernel)
set_option maxRecDepth 20000 in
theorem gX2_backward_X2_moves : GoodIn wsX2_backward (wsV RX2 108 RX2 yX2_moves wsX2_moves) := goodIn_app (goodIn_of _ (by decide +kernel)) ggX2_backward_X2_moves
theorem dX2_backward_0 : decode cX2_backward 0 = .ok (.bipush 6, 2) := by decide +kernel
theorem dX2_backward_2 : decode cX2_backward 2 = .ok (.aload_n 0, 1) := by decide +kernel
theorem dX2_backward_3 : decode cX2_backward 3 = .ok (.getfield 7, 3) := by decide +kernel
theorem dX2_backward_6 : decode cX2_backward 6 = .ok (.imul, 1) := by decide +kernel
theorem dX2_backward_7 : decode cX2_backward 7 = .ok (.istore_n 1, 1) := by decide +kernel
theorem dX2_backward_8 : decode cX2_backward 8 = .ok (.iconst 0, 1) := by decide +kernel
theorem dX2_backward_9 : decode cX2_backward 9 = .ok (.istore_n 2, 1) := by decide +kernel
theorem dX2_backward_10 : decode cX2_backward 10 = .ok (.iload_n 2, 1) := by decide +kernel
theorem dX2_backward_11 : decode cX2_backward 11 = .ok (.bipush 6, 2) := by decide +kernel
theorem dX2_backward_13 : decode cX2_backward 13 = .ok (.if_icmp .ge 29, 3) := by decide +kernel
theorem dX2_backward_16 : decode cX2_backward 16 = .ok (.aload_n 0, 1) := by decide +kernel
theorem dX2_backward_17 : decode cX2_backward 17 = .ok (.getfield 53, 3) := by decide +kernel
theorem dX2_backward_20 : decode cX2_backward 20 = .ok (.iload_n 1, 1) := by decide +kernel
theorem dX2_backward_21 : decode cX2_backward 21 = .ok (.iload_n 2, 1) := by decide +kernel
theorem dX2_backward_22 : decode cX2_backward 22 = .ok (.iadd, 1) := by decide +kernel
theorem dX2_backward_23 : decode cX2_backward 23 = .ok (.iload_n 2, 1) := by decide +kernel
theorem dX2_backward_24 : decode cX2_backward 24 = .ok (.iconst 2, 1) := by decide +kernel
theorem dX2_backward_25 : decode cX2_backward 25 = .ok (.irem, 1) := by decide +kernel
theorem dX2_backward_26 : decode cX2_backward 26 = .ok (.ifCond .ne 7, 3) := by decide +kernel
theorem dX2_backward_29 : decode cX2_backward 29 = .ok (.iconst 0, 1) := by decide +kernel
theorem dX2_backward_30 : decode cX2_backward 30 = .ok (.goto 5, 3) := by decide +kernel
theorem dX2_backward_33 : decode cX2_backward 33 = .ok (.ldc 112, 2) := by decide +kernel
theorem dX2_backward_35 : decode cX2_backward 35 = .ok (.iastore, 1) := by decide +kernel
theorem dX2_backward_36 : decode cX2_backward 36 = .ok (.iinc 2 1, 3) := by decide +kernel
theorem dX2_backward_39 : decode cX2_backward 39 = .ok (.goto (-29), 3) := by decide +kernel
theorem dX2_backward_42 : decode cX2_backward 42 = .ok (.aload_n 0, 1) := by decide +kernel
theorem dX2_backward_43 : decode cX2_backward 43 = .ok (.aload_n 0, 1) := by decide +kernel
theorem dX2_backward_44 : decode cX2_backward 44 = .ok (.getfield 53, 3) := by decide +kernel
theorem dX2_backward_47 : decode cX2_backward 47 = .ok (.aload_n 0, 1) := by decide +kernel
theorem dX2_backward_48 : decode cX2_backward 48 = .ok (.getfield 7, 3) := by decide +kernel
theorem dX2_backward_51 : decode cX2_backward 51 = .ok (.invokevirtual 105, 3) := by decide +kernel
theorem dX2_backward_54 : decode cX2_backward 54 = .ok (.istore_n 2, 1) := by decide +kernel
theorem dX2_backward_55 : decode cX2_backward 55 = .ok (.aload_n 0, 1) := by decide +kernel
theorem dX2_backward_56 : decode cX2_backward 56 = .ok (.getfield 7, 3) := by decide +kernel
theorem dX2_backward_59 : decode cX2_backward 59 = .ok (.iconst 1, 1) := by decide +kernel
theorem dX2_backward_60 : decode cX2_backward 60 = .ok (.isub, 1) := by decide +kernel
theorem dX2_backward_61 : decode cX2_backward 61 = .ok (.istore_n 3, 1) := by decide +kernel
theorem dX2_backward_62 : decode cX2_backward 62 = .ok (.iload_n 3, 1) := by decide +kernel
theorem dX2_backward_63 : decode cX2_backward 63 = .ok (.ifCond .lt 227, 3) := by decide +kernel
theorem dX2_backward_66 : decode cX2_backward 66 = .ok (.aload_n 0, 1) := by decide +kernel
theorem dX2_backward_67 : decode cX2_backward 67 = .ok (.iload_n 3, 1) := by decide +kernel
theorem dX2_backward_68 : decode cX2_backward 68 = .ok (.iconst (-1), 1) := by decide +kernel
theorem dX2_backward_69 : decode cX2_backward 69 = .ok (.invokevirtual 108, 3) := by decide +kernel
theorem dX2_backward_72 : decode cX2_backward 72 = .ok (.bipush 6, 2) := by decide +kernel
theorem dX2_backward_74 : decode cX2_backward 74 = .ok (.iload_n 3, 1) := by decide +kernel
theorem dX2_backward_75 : decode cX2_backward 75 = .ok (.imul, 1) := by decide +kernel
theorem dX2_backward_76 : decode cX2_backward 76 = .ok (.istore 4, 2) := by decide +kernel
theorem dX2_backward_78 : decode cX2_backward 78 = .ok (.aload_n 0, 1) := by decide +kernel
theorem dX2_backward_79 : decode cX2_backward 79 = .ok (.getfield 53, 3) := by decide +kernel
theorem dX2_backward_82 : decode cX2_backward 82 = .ok (.iload 4, 2) := by decide +kernel
theorem dX2_backward_84 : decode cX2_backward 84 = .ok (.aload_n 0, 1) := by decide +kernel
theorem dX2_backward_85 : decode cX2_backward 85 = .ok (.getfield 53, 3) := by decide +kernel
theorem dX2_backward_88 : decode cX2_backward 88 = .ok (.iload 4, 2) := by decide +kernel
theorem dX2_backward_90 : decode cX2_backward 90 = .ok (.bipush 6, 2) := by decide +kernel
theorem dX2_backward_92 : decode cX2_backward 92 = .ok (.iadd, 1) := by decide +kernel
theorem dX2_backward_93 : decode cX2_backward 93 = .ok (.iaload, 1) := by decide +kernel
theorem dX2_backward_94 : decode cX2_backward 94 = .ok (.aload_n 0, 1) := by decide +kernel
theorem dX2_backward_95 : decode cX2_backward 95 = .ok (.getfield 59, 3) := by decide +kernel
theorem dX2_backward_98 : decode cX2_backward 98 = .ok (.iconst 1, 1) := by decide +kernel
theorem dX2_backward_99 : decode cX2_backward 99 = .ok (.iaload, 1) := by decide +kernel
theorem dX2_backward_100 : decode cX2_backward 100 = .ok (.isub, 1) := by decide +kernel
theorem dX2_backward_101 : decode cX2_backward 101 = .ok (.aload_n 0, 1) := by decide +kernel
theorem dX2_backward_102 : decode cX2_backward 102 = .ok (.getfield 59, 3) := by decide +kernel
theorem dX2_backward_105 : decode cX2_backward 105 = .ok (.iconst 4, 1) := by decide +kernel
theorem dX2_backward_106 : decode cX2_backward 106 = .ok (.iaload, 1) := by decide +kernel
theorem dX2_backward_107 : decode cX2_backward 107 = .ok (.iadd, 1) := by decide +kernel
theorem dX2_backward_108 : decode cX2_backward 108 = .ok (.iastore, 1) := by decide +kernel
theorem dX2_backward_109 : decode cX2_backward 109 = .ok (.aload_n 0, 1) := by decide +kernel
theorem dX2_backward_110 : decode cX2_backward 110 = .ok (.getfield 53, 3) := by decide +kernel
theorem dX2_backward_113 : decode cX2_backward 113 = .ok (.iload 4, 2) := by decide +kernel
theorem dX2_backward_115 : decode cX2_backward 115 = .ok (.iconst 1, 1) := by decide +kernel
theorem dX2_backward_116 : decode cX2_backward 116 = .ok (.iadd, 1) := by decide +kernel
theorem dX2_backward_117 : decode cX2_backward 117 = .ok (.aload_n 0, 1) := by decide +kernel
theorem dX2_backward_118 : decode cX2_backward 118 = .ok (.getfield 53, 3) := by decide +kernel
theorem dX2_backward_121 : decode cX2_backward 121 = .ok (.iload 4, 2) := by decide +kernel
theorem dX2_backward_123 : decode cX2_backward 123 = .ok (.bipush 7, 2) := by decide +kernel
theorem dX2_backward_125 : decode cX2_backward 125 = .ok (.iadd, 1) := by decide +kernel
theorem dX2_backward_126 : decode cX2_backward 126 = .ok (.iaload, 1) := by decide +kernel
theorem dX2_backward_127 : decode cX2_backward 127 = .ok (.aload_n 0, 1) := by decide +kernel
theorem dX2_backward_128 : decode cX2_backward 128 = .ok (.getfield 59, 3) := by decide +kernel
theorem dX2_backward_131 : decode cX2_backward 131 = .ok (.iconst 0, 1) := by decide +kernel
theorem dX2_backward_132 : decode cX2_backward 132 = .ok (.iaload, 1) := by decide +kernel
theorem dX2_backward_133 : decode cX2_backward 133 = .ok (.isub, 1) := by decide +kernel
theorem dX2_backward_134 : decode cX2_backward 134 = .ok (.aload_n 0, 1) := by decide +kernel
theorem dX2_backward_135 : decode cX2_backward 135 = .ok (.getfield 59, 3) := by decide +kernel
theorem dX2_backward_138 : decode cX2_backward 138 = .ok (.iconst 5, 1) := by decide +kernel
theorem dX2_backward_139 : decode cX2_backward 139 = .ok (.iaload, 1) := by decide +kernel
theorem dX2_backward_140 : decode cX2_backward 140 = .ok (.iadd, 1) := by decide +kernel
theorem dX2_backward_141 : decode cX2_backward 141 = .ok (.iastore, 1) := by decide +kernel
theorem dX2_backward_142 : decode cX2_backward 142 = .ok (.aload_n 0, 1) := by decide +kernel
theorem dX2_backward_143 : decode cX2_backward 143 = .ok (.getfield 53, 3) := by decide +kernel
theorem dX2_backward_146 : decode cX2_backward 146 = .ok (.iload 4, 2) := by decide +kernel
theorem dX2_backward_148 : decode cX2_backward 148 = .ok (.iconst 2, 1) := by decide +kernel
theorem dX2_backward_149 : decode cX2_backward 149 = .ok (.iadd, 1) := by decide +kernel
theorem dX2_backward_150 : decode cX2_backward 150 = .ok (.aload_n 0, 1) := by decide +kernel
theorem dX2_backward_151 : decode cX2_backward 151 = .ok (.getfield 53, 3) := by decide +kernel
theorem dX2_backward_154 : decode cX2_backward 154 = .ok (.iload 4, 2) := by decide +kernel
theorem dX2_backward_156 : decode cX2_backward 156 = .ok (.bipush 8, 2) := by decide +kernel
theorem dX2_backward_158 : decode cX2_backward 158 = .ok (.iadd, 1) := by decide +kernel
theorem dX2_backward_159 : decode cX2_backward 159 = .ok (.iaload, 1) := by decide +kernel
theorem dX2_backward_160 : decode cX2_backward 160 = .ok (.aload_n 0, 1) := by decide +kernel
theorem dX2_backward_161 : decode cX2_backward 161 = .ok (.getfield 59, 3) := by decide +kernel
theorem dX2_backward_164 : decode cX2_backward 164 = .ok (.iconst 3, 1) := by decide +kernel
theorem dX2_backward_165 : decode cX2_backward 165 = .ok (.iaload, 1) := by decide +kernel
theorem dX2_backward_166 : decode cX2_backward 166 = .ok (.isub, 1) := by decide +kernel
theorem dX2_backward_167 : decode cX2_backward 167 = .ok (.aload_n 0, 1) := by decide +kernel
theorem dX2_backward_168 : decode cX2_backward 168 = .ok (.getfield 59, 3) := by decide +kernel
theorem dX2_backward_171 : decode cX2_backward 171 = .ok (.iconst 5, 1) := by decide +kernel
theorem dX2_backward_172 : decode cX2_backward 172 = .ok (.iaload, 1) := by decide +kernel
theorem dX2_backward_173 : decode cX2_backward 173 = .ok (.isub, 1) := by decide +kernel
theorem dX2_backward_174 : decode cX2_backward 174 = .ok (.iastore, 1) := by decide +kernel
theorem dX2_backward_175 : decode cX2_backward 175 = .ok (.aload_n 0, 1) := by decide +kernel
theorem dX2_backward_176 : decode cX2_backward 176 = .ok (.getfield 53, 3) := by decide +kernel
theorem dX2_backward_179 : decode cX2_backward 179 = .ok (.iload 4, 2) := by decide +kernel
theorem dX2_backward_181 : decode cX2_backward 181 = .ok (.iconst 3, 1) := by decide +kernel
theorem dX2_backward_182 : decode cX2_backward 182 = .ok (.iadd, 1) := by decide +kernel
theorem dX2_backward_183 : decode cX2_backward 183 = .ok (.aload_n 0, 1) := by decide +kernel
theorem dX2_backward_184 : decode cX2_backward 184 = .ok (.getfield 53, 3) := by decide +kernel
theorem dX2_backward_187 : decode cX2_backward 187 = .ok (.iload 4, 2) := by decide +kernel
theorem dX2_backward_189 : decode cX2_backward 189 = .ok (.bipush 9, 2) := by decide +kernel
theorem dX2_backward_191 : decode cX2_backward 191 = .ok (.iadd, 1) := by decide +kernel
theorem dX2_backward_192 : decode cX2_backward 192 = .ok (.iaload, 1) := by decide +kernel
theorem dX2_backward_193 : decode cX2_backward 193 = .ok (.aload_n 0, 1) := by decide +kernel
theorem dX2_backward_194 : decode cX2_backward 194 = .ok (.getfield 59, 3) := by decide +kernel
theorem dX2_backward_197 : decode cX2_backward 197 = .ok (.iconst 2, 1) := by decide +kernel
theorem dX2_backward_198 : decode cX2_backward 198 = .ok (.iaload, 1) := by decide +kernel
theorem dX2_backward_199 : decode cX2_backward 199 = .ok (.isub, 1) := by decide +kernel
theorem dX2_backward_200 : decode cX2_backward 200 = .ok (.aload_n 0, 1) := by decide +kernel
theorem dX2_backward_201 : decode cX2_backward 201 = .ok (.getfield 59, 3) := by decide +kernel
theorem dX2_backward_204 : decode cX2_backward 204 = .ok (.iconst 4, 1) := by decide +kernel
theorem dX2_backward_205 : decode cX2_backward 205 = .ok (.iaload, 1) := by decide +kernel
theorem dX2_backward_206 : decode cX2_backward 206 = .ok (.isub, 1) := by decide +kernel
theorem dX2_backward_207 : decode cX2_backward 207 = .ok (.iastore, 1) := by decide +kernel
theorem dX2_backward_208 : decode cX2_backward 208 = .ok (.aload_n 0, 1) := by decide +kernel
theorem dX2_backward_209 : decode cX2_backward 209 = .ok (.getfield 53, 3) := by decide +kernel
theorem dX2_backward_212 : decode cX2_backward 212 = .ok (.iload 4, 2) := by decide +kernel
theorem dX2_backward_214 : decode cX2_backward 214 = .ok (.iconst 4, 1) := by decide +kernel
theorem dX2_backward_215 : decode cX2_backward 215 = .ok (.iadd, 1) := by decide +kernel
theorem dX2_backward_216 : decode cX2_backward 216 = .ok (.aload_n 0, 1) := by decide +kernel
theorem dX2_backward_217 : decode cX2_backward 217 = .ok (.getfield 53, 3) := by decide +kernel
theorem dX2_backward_220 : decode cX2_backward 220 = .ok (.iload 4, 2) := by decide +kernel
theorem dX2_backward_222 : decode cX2_backward 222 = .ok (.bipush 10, 2) := by decide +kernel
theorem dX2_backward_224 : decode cX2_backward 224 = .ok (.iadd, 1) := by decide +kernel
theorem dX2_backward_225 : decode cX2_backward 225 = .ok (.iaload, 1) := by decide +kernel
theorem dX2_backward_226 : decode cX2_backward 226 = .ok (.aload_n 0, 1) := by decide +kernel
theorem dX2_backward_227 : decode cX2_backward 227 = .ok (.getfield 59, 3) := by decide +kernel
theorem dX2_backward_230 : decode cX2_backward 230 = .ok (.iconst 1, 1) := by decide +kernel
theorem dX2_backward_231 : decode cX2_backward 231 = .ok (.iaload, 1) := by decide +kernel
theorem dX2_backward_232 : decode cX2_backward 232 = .ok (.isub, 1) := by decide +kernel
theorem dX2_backward_233 : decode cX2_backward 233 = .ok (.aload_n 0, 1) := by decide +kernel
theorem dX2_backward_234 : decode cX2_backward 234 = .ok (.getfield 59, 3) := by decide +kernel
theorem dX2_backward_237 : decode cX2_backward 237 = .ok (.iconst 3, 1) := by decide +kernel
theorem dX2_backward_238 : decode cX2_backward 238 = .ok (.iaload, 1) := by decide +kernel
theorem dX2_backward_239 : decode cX2_backward 239 = .ok (.isub, 1) := by decide +kernel
theorem dX2_backward_240 : decode cX2_backward 240 = .ok (.iastore, 1) := by decide +kernel
theorem dX2_backward_241 : decode cX2_backward 241 = .ok (.aload_n 0, 1) := by decide +kernel
theorem dX2_backward_242 : decode cX2_backward 242 = .ok (.getfield 53, 3) := by decide +kernel
theorem dX2_backward_245 : decode cX2_backward 245 = .ok (.iload 4, 2) := by decide +kernel
theorem dX2_backward_247 : decode cX2_backward 247 = .ok (.iconst 5, 1) := by decide +kernel
theorem dX2_backward_248 : decode cX2_backward 248 = .ok (.iadd, 1) := by decide +kernel
theorem dX2_backward_249 : decode cX2_backward 249 = .ok (.aload_n 0, 1) := by decide +kernel
theorem dX2_backward_250 : decode cX2_backward 250 = .ok (.getfield 53, 3) := by decide +kernel
theorem dX2_backward_253 : decode cX2_backward 253 = .ok (.iload 4, 2) := by decide +kernel
theorem dX2_backward_255 : decode cX2_backward 255 = .ok (.bipush 11, 2) := by decide +kernel
theorem dX2_backward_257 : decode cX2_backward 257 = .ok (.iadd, 1) := by decide +kernel
theorem dX2_backward_258 : decode cX2_backward 258 = .ok (.iaload, 1) := by decide +kernel
theorem dX2_backward_259 : decode cX2_backward 259 = .ok (.aload_n 0, 1) := by decide +kernel
theorem dX2_backward_260 : decode cX2_backward 260 = .ok (.getfield 59, 3) := by decide +kernel
theorem dX2_backward_263 : decode cX2_backward 263 = .ok (.iconst 0, 1) := by decide +kernel
theorem dX2_backward_264 : decode cX2_backward 264 = .ok (.iaload, 1) := by decide +kernel
theorem dX2_backward_265 : decode cX2_backward 265 = .ok (.isub, 1) := by decide +kernel
theorem dX2_backward_266 : decode cX2_backward 266 = .ok (.aload_n 0, 1) := by decide +kernel
theorem dX2_backward_267 : decode cX2_backward 267 = .ok (.getfield 59, 3) := by decide +kernel
theorem dX2_backward_270 : decode cX2_backward 270 = .ok (.iconst 2, 1) := by decide +kernel
theorem dX2_backward_271 : decode cX2_backward 271 = .ok (.iaload, 1) := by decide +kernel
theorem dX2_backward_272 : decode cX2_backward 272 = .ok (.isub, 1) := by decide +kernel
theorem dX2_backward_273 : decode cX2_backward 273 = .ok (.iastore, 1) := by decide +kernel
theorem dX2_backward_274 : decode cX2_backward 274 = .ok (.aload_n 0, 1) := by decide +kernel
theorem dX2_backward_275 : decode cX2_backward 275 = .ok (.aload_n 0, 1) := by decide +kernel
theorem dX2_backward_276 : decode cX2_backward 276 = .ok (.getfield 53, 3) := by decide +kernel
theorem dX2_backward_279 : decode cX2_backward 279 = .ok (.iload_n 3, 1) := by decide +kernel
theorem dX2_backward_280 : decode cX2_backward 280 = .ok (.invokevirtual 105, 3) := by decide +kernel
theorem dX2_backward_283 : decode cX2_backward 283 = .ok (.istore_n 2, 1) := by decide +kernel
theorem dX2_backward_284 : decode cX2_backward 284 = .ok (.iinc 3 (-1), 3) := by decide +kernel
theorem dX2_backward_287 : decode cX2_backward 287 = .ok (.goto (-225), 3) := by decide +kernel
theorem dX2_backward_290 : decode cX2_backward 290 = .ok (.return_, 1) := by decide +kernel
set_option maxRecDepth 20000 in
theorem ggX2_work_X2_forward : GoodIn wsX2_work wsX2_forward := goodIn_r _ [10, 4, 11, 12, 2, 13, 14, 15, 16, 9, 17, 18, 19, 20, 21, 22, 23, 24, 25, 26, 27, 28, 29, 30, 31, 32, 33, 34, 35, 36, 37, 38, 39, 40, 41, 42, 43, 44, 45, 46, 47, 48, 49, 1, 50, 51, 52, 53, 54, 55, 56, 57, 58, 59, 65, 66, 67, 68, 69, 70, 71, 72, 73, 74, 75, 76, 77, 78, 79, 80, 81, 82, 83, 84, 85] (by decide +kernel) (by decide +kernel)
set_option maxRecDepth 20000 in
theorem gX2_work_X2_forward : GoodIn wsX2_work (wsV RX2 113 RX2 yX2_forward wsX2_forward) := goodIn_app (goodIn_of _ (by decide +kernel)) ggX2_work_X2_forward
set_option maxRecDepth 20000 in
theorem ggX2_work_X2_backward : GoodIn wsX2_work wsX2_backward := goodIn_r _ [63, 2, 5, 64, 13, 14, 15, 16, 9, 17, 18, 19, 20, 21, 22, 23, 24, 25, 26, 27, 28, 29, 30, 31, 32, 33, 34, 35, 36, 37, 38, 39, 40, 41, 42, 43, 44, 45, 46, 47, 48, 49, 1, 50, 51, 52, 53, 54, 55, 56, 57, 58, 59, 65, 66, 67, 68, 69, 70, 71, 72, 73, 74, 75, 76, 77, 78, 79, 80, 81, 82, 83, 84, 85] (by decide +kernel) (by decide +kernel)
set_option maxRecDepth 20000 in
theorem gX2_work_X2_backward : GoodIn wsX2_work (wsV RX2 117 RX2 yX2_backward wsX2_backward) := goodIn_app (goodIn_of _ (by decide +kernel)) ggX2_work_X2_backward
set_option maxRecDepth 20000 in
theorem ggX2_work_X2_greater : GoodIn wsX2_work wsX2_greater := goodIn_r _ [25] (by decide +kernel) (by decide +kernel)
set_option maxRecDepth 20000 in
theorem gX2_work_X2_greater : GoodIn wsX2_work (va_wsS RX2 82 yX2_greater wsX2_greater) := goodIn_app (goodIn_of _ (by decide +kernel)) ggX2_work_X2_greater
set_option maxRecDepth 20000 in
theorem ggX2_work_X2_lesser : GoodIn wsX2_work wsX2_lesser := goodIn_r _ [28] (by decide +kernel) (by decide +kernel)
set_option maxRecDepth 20000 in
theorem gX2_work_X2_lesser : GoodIn wsX2_work (va_wsS RX2 98 yX2_lesser wsX2_lesser) := goodIn_app (goodIn_of _ (by decide +kernel)) ggX2_work_X2_lesser
set_option maxRecDepth 20000 in
theorem ggX2_work_X2_close : GoodIn wsX2_work wsX2_close := goodIn_r _ [32, 23, 24, 9, 25, 26, 27, 28] (by decide +kernel) (by decide +kernel)
set_option maxRecDepth 20000 in
theorem gX2_work_X2_close : GoodIn wsX2_work (wsV RX2 101 RX2 yX2_close wsX2_close) := goodIn_app (goodIn_of _ (by decide +kernel)) ggX2_work_X2_close
theorem dX2_work_0 : decode cX2_work 0 = .ok (.aload_n 0, 1) := by decide +kernel
theorem dX2_work_1 : decode cX2_work 1 = .ok (.iconst 0, 1) := by decide +kernel
theorem dX2_work_2 : decode cX2_work 2 = .ok (.putfield 79, 3) := by decide +kernel
theorem dX2_work_5 : decode cX2_work 5 = .ok (.aload_n 0, 1) := by decide +kernel
theorem dX2_work_6 : decode cX2_work 6 = .ok (.invokevirtual 113, 3) := by decide +kernel
theorem dX2_work_9 : decode cX2_work 9 = .ok (.ifCond .lt 5, 3) := by decide +kernel
theorem dX2_work_12 : decode cX2_work 12 = .ok (.iconst 0, 1) := by decide +kernel
theorem dX2_work_13 : decode cX2_work 13 = .ok (.ireturn, 1) := by decide +kernel
theorem dX2_work_14 : decode cX2_work 14 = .ok (.aload_n 0, 1) := by decide +kernel
theorem dX2_work_15 : decode cX2_work 15 = .ok (.invokevirtual 117, 3) := by decide +kernel
theorem dX2_work_18 : decode cX2_work 18 = .ok (.iconst 0, 1) := by decide +kernel
theorem dX2_work_19 : decode cX2_work 19 = .ok (.istore_n 1, 1) := by decide +kernel
theorem dX2_work_20 : decode cX2_work 20 = .ok (.iload_n 1, 1) := by decide +kernel
theorem dX2_work_21 : decode cX2_work 21 = .ok (.aload_n 0, 1) := by decide +kernel
theorem dX2_work_22 : decode cX2_work 22 = .ok (.getfield 7, 3) := by decide +kernel
theorem dX2_work_25 : decode cX2_work 25 = .ok (.if_icmp .gt 89, 3) := by decide +kernel
theorem dX2_work_28 : decode cX2_work 28 = .ok (.bipush 6, 2) := by decide +kernel
theorem dX2_work_30 : decode cX2_work 30 = .ok (.iload_n 1, 1) := by decide +kernel
theorem dX2_work_31 : decode cX2_work 31 = .ok (.imul, 1) := by decide +kernel
theorem dX2_work_32 : decode cX2_work 32 = .ok (.istore_n 2, 1) := by decide +kernel
theorem dX2_work_33 : decode cX2_work 33 = .ok (.iload_n 2, 1) := by decide +kernel
theorem dX2_work_34 : decode cX2_work 34 = .ok (.bipush 6, 2) := by decide +kernel
theorem dX2_work_36 : decode cX2_work 36 = .ok (.iload_n 1, 1) := by decide +kernel
theorem dX2_work_37 : decode cX2_work 37 = .ok (.imul, 1) := by decide +kernel
theorem dX2_work_38 : decode cX2_work 38 = .ok (.bipush 6, 2) := by decide +kernel
theorem dX2_work_40 : decode cX2_work 40 = .ok (.iadd, 1) := by decide +kernel
theorem dX2_work_41 : decode cX2_work 41 = .ok (.if_icmp .ge 54, 3) := by decide +kernel
theorem dX2_work_44 : decode cX2_work 44 = .ok (.aload_n 0, 1) := by decide +kernel
theorem dX2_work_45 : decode cX2_work 45 = .ok (.getfield 56, 3) := by decide +kernel
theorem dX2_work_48 : decode cX2_work 48 = .ok (.iload_n 2, 1) := by decide +kernel
theorem dX2_work_49 : decode cX2_work 49 = .ok (.iload_n 2, 1) := by decide +kernel
theorem dX2_work_50 : decode cX2_work 50 = .ok (.iconst 2, 1) := by decide +kernel
theorem dX2_work_51 : decode cX2_work 51 = .ok (.irem, 1) := by decide +kernel
theorem dX2_work_52 : decode cX2_work 52 = .ok (.ifCond .ne 21, 3) := by decide +kernel
theorem dX2_work_55 : decode cX2_work 55 = .ok (.aload_n 0, 1) := by decide +kernel
theorem dX2_work_56 : decode cX2_work 56 = .ok (.getfield 50, 3) := by decide +kernel
theorem dX2_work_59 : decode cX2_work 59 = .ok (.iload_n 2, 1) := by decide +kernel
theorem dX2_work_60 : decode cX2_work 60 = .ok (.iaload, 1) := by decide +kernel
theorem dX2_work_61 : decode cX2_work 61 = .ok (.aload_n 0, 1) := by decide +kernel
theorem dX2_work_62 : decode cX2_work 62 = .ok (.getfield 53, 3) := by decide +kernel
theorem dX2_work_65 : decode cX2_work 65 = .ok (.iload_n 2, 1) := by decide +kernel
theorem dX2_work_66 : decode cX2_work 66 = .ok (.iaload, 1) := by decide +kernel
theorem dX2_work_67 : decode cX2_work 67 = .ok (.invokestatic 82, 3) := by decide +kernel
theorem dX2_work_70 : decode cX2_work 70 = .ok (.goto 18, 3) := by decide +kernel
theorem dX2_work_73 : decode cX2_work 73 = .ok (.aload_n 0, 1) := by decide +kernel
theorem dX2_work_74 : decode cX2_work 74 = .ok (.getfield 50, 3) := by decide +kernel
theorem dX2_work_77 : decode cX2_work 77 = .ok (.iload_n 2, 1) := by decide +kernel
theorem dX2_work_78 : decode cX2_work 78 = .ok (.iaload, 1) := by decide +kernel
theorem dX2_work_79 : decode cX2_work 79 = .ok (.aload_n 0, 1) := by decide +kernel
theorem dX2_work_80 : decode cX2_work 80 = .ok (.getfield 53, 3) := by decide +kernel
theorem dX2_work_83 : decode cX2_work 83 = .ok (.iload_n 2, 1) := by decide +kernel
theorem dX2_work_84 : decode cX2_work 84 = .ok (.iaload, 1) := by decide +kernel
theorem dX2_work_85 : decode cX2_work 85 = .ok (.invokestatic 98, 3) := by decide +kernel
theorem dX2_work_88 : decode cX2_work 88 = .ok (.iastore, 1) := by decide +kernel
theorem dX2_work_89 : decode cX2_work 89 = .ok (.iinc 2 1, 3) := by decide +kernel
theorem dX2_work_92 : decode cX2_work 92 = .ok (.goto (-59), 3) := by decide +kernel
theorem dX2_work_95 : decode cX2_work 95 = .ok (.aload_n 0, 1) := by decide +kernel
theorem dX2_work_96 : decode cX2_work 96 = .ok (.aload_n 0, 1) := by decide +kernel
theorem dX2_work_97 : decode cX2_work 97 = .ok (.getfield 56, 3) := by decide +kernel
theorem dX2_work_100 : decode cX2_work 100 = .ok (.bipush 6, 2) := by decide +kernel
theorem dX2_work_102 : decode cX2_work 102 = .ok (.iload_n 1, 1) := by decide +kernel
theorem dX2_work_103 : decode cX2_work 103 = .ok (.imul, 1) := by decide +kernel
theorem dX2_work_104 : decode cX2_work 104 = .ok (.invokevirtual 101, 3) := by decide +kernel
theorem dX2_work_107 : decode cX2_work 107 = .ok (.istore_n 2, 1) := by decide +kernel
theorem dX2_work_108 : decode cX2_work 108 = .ok (.iinc 1 1, 3) := by decide +kernel
theorem dX2_work_111 : decode cX2_work 111 = .ok (.goto (-91), 3) := by decide +kernel
theorem dX2_work_114 : decode cX2_work 114 = .ok (.iconst 1, 1) := by decide +kernel
theorem dX2_work_115 : decode cX2_work 115 = .ok (.ireturn, 1) := by decide +kernel
set_option maxRecDepth 20000 in
theorem ggX2_fits_X2_forward : GoodIn wsX2_fits wsX2_forward := goodIn_r _ [7, 8, 9, 10, 11, 12, 13, 14, 15, 6, 16, 17, 18, 19, 20, 21, 22, 23, 24, 25, 26, 27, 28, 29, 30, 31, 32, 33, 34, 35, 36, 37, 38, 39, 40, 41, 42, 43, 44, 45, 46, 47, 48, 2, 49, 50, 51, 52, 53, 54, 55, 56, 57, 58, 59, 60, 61, 62, 63, 64, 65, 66, 67, 68, 69, 70, 71, 72, 73, 74, 75, 76, 77, 78, 79] (by decide +kernel) (by decide +kernel)
set_option maxRecDepth 20000 in
theorem gX2_fits_X2_forward : GoodIn wsX2_fits (wsV RX2 113 RX2 yX2_forward wsX2_forward) := goodIn_app (goodIn_of _ (by decide +kernel)) ggX2_fits_X2_forward
theorem dX2_fits_0 : decode cX2_fits 0 = .ok (.aload_n 0, 1) := by decide +kernel
theorem dX2_fits_1 : decode cX2_fits 1 = .ok (.iconst 0, 1) := by decide +kernel
theorem dX2_fits_2 : decode cX2_fits 2 = .ok (.putfield 66, 3) := by decide +kernel
theorem dX2_fits_5 : decode cX2_fits 5 = .ok (.aload_n 0, 1) := by decide +kernel
theorem dX2_fits_6 : decode cX2_fits 6 = .ok (.iconst 0, 1) := by decide +kernel
theorem dX2_fits_7 : decode cX2_fits 7 = .ok (.putfield 79, 3) := by decide +kernel
theorem dX2_fits_10 : decode cX2_fits 10 = .ok (.aload_n 0, 1) := by decide +kernel
theorem dX2_fits_11 : decode cX2_fits 11 = .ok (.invokevirtual 113, 3) := by decide +kernel
theorem dX2_fits_14 : decode cX2_fits 14 = .ok (.ifCond .ge 7, 3) := by decide +kernel
theorem dX2_fits_17 : decode cX2_fits 17 = .ok (.iconst 1, 1) := by decide +kernel
theorem dX2_fits_18 : decode cX2_fits 18 = .ok (.goto 4, 3) := by decide +kernel
theorem dX2_fits_21 : decode cX2_fits 21 = .ok (.iconst 0, 1) := by decide +kernel
theorem dX2_fits_22 : decode cX2_fits 22 = .ok (.ireturn, 1) := by decide +kernel
theorem dX2_fails_0 : decode cX2_fails 0 = .ok (.aload_n 0, 1) := by decide +kernel
theorem dX2_fails_1 : decode cX2_fails 1 = .ok (.iload_n 1, 1) := by decide +kernel
theorem dX2_fails_2 : decode cX2_fails 2 = .ok (.putfield 66, 3) := by decide +kernel
theorem dX2_fails_5 : decode cX2_fails 5 = .ok (.iconst 0, 1) := by decide +kernel
theorem dX2_fails_6 : decode cX2_fails 6 = .ok (.ireturn, 1) := by decide +kernel
set_option maxRecDepth 20000 in
theorem ggX2_inside_X2_fails : GoodIn wsX2_inside wsX2_fails := goodIn_r _ [8, 1, 74, 75, 76, 77, 78, 79, 80, 81, 82, 83, 84, 85, 86, 87, 88, 89, 90, 91, 92, 93, 94] (by decide +kernel) (by decide +kernel)
set_option maxRecDepth 20000 in
theorem gX2_inside_X2_fails : GoodIn wsX2_inside (wsV RX2 120 RX2 yX2_fails wsX2_fails) := goodIn_app (goodIn_of _ (by decide +kernel)) ggX2_inside_X2_fails
set_option maxRecDepth 20000 in
theorem ggX2_inside_X2_work : GoodIn wsX2_inside wsX2_work := goodIn_r _ [12, 13, 2, 3, 14, 15, 16, 17, 18, 7, 19, 20, 21, 22, 23, 24, 25, 26, 27, 28, 29, 30, 31, 32, 33, 34, 35, 36, 37, 38, 39, 40, 41, 42, 43, 44, 45, 46, 47, 48, 49, 50, 51, 52, 53, 54, 55, 56, 57, 58, 59, 60, 61, 62, 63, 64, 65, 66, 67, 68, 69, 70, 71, 72, 73, 74, 75, 76, 77, 78, 79, 80, 81, 82, 83, 84, 85, 86, 87, 88, 89, 90, 91, 92, 93, 94] (by decide +kernel) (by decide +kernel)
set_option maxRecDepth 20000 in
theorem gX2_inside_X2_work : GoodIn wsX2_inside (wsV RX2 124 RX2 yX2_work wsX2_work) := goodIn_app (goodIn_of _ (by decide +kernel)) ggX2_inside_X2_work
theorem dX2_inside_0 : decode cX2_inside 0 = .ok (.aload_n 0, 1) := by decide +kernel
theorem dX2_inside_1 : decode cX2_inside 1 = .ok (.iconst 0, 1) := by decide +kernel
theorem dX2_inside_2 : decode cX2_inside 2 = .ok (.putfield 66, 3) := by decide +kernel
theorem dX2_inside_5 : decode cX2_inside 5 = .ok (.iload_n 1, 1) := by decide +kernel
theorem dX2_inside_6 : decode cX2_inside 6 = .ok (.ifCond .lt 20, 3) := by decide +kernel
theorem dX2_inside_9 : decode cX2_inside 9 = .ok (.iload_n 1, 1) := by decide +kernel
theorem dX2_inside_10 : decode cX2_inside 10 = .ok (.aload_n 0, 1) := by decide +kernel
theorem dX2_inside_11 : decode cX2_inside 11 = .ok (.getfield 7, 3) := by decide +kernel
theorem dX2_inside_14 : decode cX2_inside 14 = .ok (.if_icmp .gt 12, 3) := by decide +kernel
theorem dX2_inside_17 : decode cX2_inside 17 = .ok (.iload_n 2, 1) := by decide +kernel
theorem dX2_inside_18 : decode cX2_inside 18 = .ok (.ifCond .lt 8, 3) := by decide +kernel
theorem dX2_inside_21 : decode cX2_inside 21 = .ok (.iload_n 2, 1) := by decide +kernel
theorem dX2_inside_22 : decode cX2_inside 22 = .ok (.iconst 2, 1) := by decide +kernel
theorem dX2_inside_23 : decode cX2_inside 23 = .ok (.if_icmp .le 9, 3) := by decide +kernel
theorem dX2_inside_26 : decode cX2_inside 26 = .ok (.aload_n 0, 1) := by decide +kernel
theorem dX2_inside_27 : decode cX2_inside 27 = .ok (.iconst 1, 1) := by decide +kernel
theorem dX2_inside_28 : decode cX2_inside 28 = .ok (.invokevirtual 120, 3) := by decide +kernel
theorem dX2_inside_31 : decode cX2_inside 31 = .ok (.ireturn, 1) := by decide +kernel
theorem dX2_inside_32 : decode cX2_inside 32 = .ok (.aload_n 0, 1) := by decide +kernel
theorem dX2_inside_33 : decode cX2_inside 33 = .ok (.invokevirtual 124, 3) := by decide +kernel
theorem dX2_inside_36 : decode cX2_inside 36 = .ok (.ifCond .ne 9, 3) := by decide +kernel
theorem dX2_inside_39 : decode cX2_inside 39 = .ok (.aload_n 0, 1) := by decide +kernel
theorem dX2_inside_40 : decode cX2_inside 40 = .ok (.iconst 2, 1) := by decide +kernel
theorem dX2_inside_41 : decode cX2_inside 41 = .ok (.invokevirtual 120, 3) := by decide +kernel
theorem dX2_inside_44 : decode cX2_inside 44 = .ok (.ireturn, 1) := by decide +kernel
theorem dX2_inside_45 : decode cX2_inside 45 = .ok (.aload_n 0, 1) := by decide +kernel
theorem dX2_inside_46 : decode cX2_inside 46 = .ok (.getfield 56, 3) := by decide +kernel
theorem dX2_inside_49 : decode cX2_inside 49 = .ok (.bipush 6, 2) := by decide +kernel
theorem dX2_inside_51 : decode cX2_inside 51 = .ok (.iload_n 1, 1) := by decide +kernel
theorem dX2_inside_52 : decode cX2_inside 52 = .ok (.imul, 1) := by decide +kernel
theorem dX2_inside_53 : decode cX2_inside 53 = .ok (.iconst 2, 1) := by decide +kernel
theorem dX2_inside_54 : decode cX2_inside 54 = .ok (.iload_n 2, 1) := by decide +kernel
theorem dX2_inside_55 : decode cX2_inside 55 = .ok (.imul, 1) := by decide +kernel
theorem dX2_inside_56 : decode cX2_inside 56 = .ok (.iadd, 1) := by decide +kernel
theorem dX2_inside_57 : decode cX2_inside 57 = .ok (.iload_n 3, 1) := by decide +kernel
theorem dX2_inside_58 : decode cX2_inside 58 = .ok (.ifCond .eq 7, 3) := by decide +kernel
theorem dX2_inside_61 : decode cX2_inside 61 = .ok (.iconst 1, 1) := by decide +kernel
theorem dX2_inside_62 : decode cX2_inside 62 = .ok (.goto 4, 3) := by decide +kernel
theorem dX2_inside_65 : decode cX2_inside 65 = .ok (.iconst 0, 1) := by decide +kernel
theorem dX2_inside_66 : decode cX2_inside 66 = .ok (.iadd, 1) := by decide +kernel
theorem dX2_inside_67 : decode cX2_inside 67 = .ok (.iaload, 1) := by decide +kernel
theorem dX2_inside_68 : decode cX2_inside 68 = .ok (.ireturn, 1) := by decide +kernel
set_option maxRecDepth 20000 in
theorem ggX2_above_X2_work : GoodIn wsX2_above wsX2_work := goodIn_r _ [8, 9, 2, 3, 10, 11, 12, 13, 14, 7, 15, 16, 17, 18, 19, 20, 21, 22, 23, 24, 25, 26, 27, 28, 29, 30, 31, 32, 33, 34, 35, 36, 37, 38, 39, 40, 41, 42, 43, 44, 45, 46, 47, 48, 49, 50, 51, 52, 53, 54, 55, 56, 57, 58, 59, 60, 61, 62, 63, 64, 65, 66, 67, 68, 69, 70, 71, 72, 73, 74, 75, 76, 77, 78, 79, 80, 81, 82, 83, 84, 85, 86, 87, 88, 89, 90] (by decide +kernel) (by decide +kernel)
set_option maxRecDepth 20000 in
theorem gX2_above_X2_work : GoodIn wsX2_above (wsV RX2 124 RX2 yX2_work wsX2_work) := goodIn_app (goodIn_of _ (by decide +kernel)) ggX2_above_X2_work
theorem dX2_above_0 : decode cX2_above 0 = .ok (.iload_n 1, 1) := by decide +kernel
theorem dX2_above_1 : decode cX2_above 1 = .ok (.ifCond .lt 16, 3) := by decide +kernel
theorem dX2_above_4 : decode cX2_above 4 = .ok (.iload_n 1, 1) := by decide +kernel
theorem dX2_above_5 : decode cX2_above 5 = .ok (.ldc 128, 2) := by decide +kernel
theorem dX2_above_7 : decode cX2_above 7 = .ok (.if_icmp .gt 10, 3) := by decide +kernel
theorem dX2_above_10 : decode cX2_above 10 = .ok (.aload_n 0, 1) := by decide +kernel
theorem dX2_above_11 : decode cX2_above 11 = .ok (.invokevirtual 124, 3) := by decide +kernel
theorem dX2_above_14 : decode cX2_above 14 = .ok (.ifCond .ne 5, 3) := by decide +kernel
theorem dX2_above_17 : decode cX2_above 17 = .ok (.iconst (-1), 1) := by decide +kernel
theorem dX2_above_18 : decode cX2_above 18 = .ok (.ireturn, 1) := by decide +kernel
theorem dX2_above_19 : decode cX2_above 19 = .ok (.iconst 0, 1) := by decide +kernel
theorem dX2_above_20 : decode cX2_above 20 = .ok (.istore_n 3, 1) := by decide +kernel
theorem dX2_above_21 : decode cX2_above 21 = .ok (.iload_n 3, 1) := by decide +kernel
theorem dX2_above_22 : decode cX2_above 22 = .ok (.aload_n 0, 1) := by decide +kernel
theorem dX2_above_23 : decode cX2_above 23 = .ok (.getfield 7, 3) := by decide +kernel
theorem dX2_above_26 : decode cX2_above 26 = .ok (.if_icmp .gt 26, 3) := by decide +kernel
theorem dX2_above_29 : decode cX2_above 29 = .ok (.aload_n 0, 1) := by decide +kernel
theorem dX2_above_30 : decode cX2_above 30 = .ok (.getfield 56, 3) := by decide +kernel
theorem dX2_above_33 : decode cX2_above 33 = .ok (.bipush 6, 2) := by decide +kernel
theorem dX2_above_35 : decode cX2_above 35 = .ok (.iload_n 3, 1) := by decide +kernel
theorem dX2_above_36 : decode cX2_above 36 = .ok (.imul, 1) := by decide +kernel
theorem dX2_above_37 : decode cX2_above 37 = .ok (.iload_n 2, 1) := by decide +kernel
theorem dX2_above_38 : decode cX2_above 38 = .ok (.iadd, 1) := by decide +kernel
theorem dX2_above_39 : decode cX2_above 39 = .ok (.iaload, 1) := by decide +kernel
theorem dX2_above_40 : decode cX2_above 40 = .ok (.iload_n 1, 1) := by decide +kernel
theorem dX2_above_41 : decode cX2_above 41 = .ok (.if_icmp .le 5, 3) := by decide +kernel
theorem dX2_above_44 : decode cX2_above 44 = .ok (.iload_n 3, 1) := by decide +kernel
theorem dX2_above_45 : decode cX2_above 45 = .ok (.ireturn, 1) := by decide +kernel
theorem dX2_above_46 : decode cX2_above 46 = .ok (.iinc 3 1, 3) := by decide +kernel
theorem dX2_above_49 : decode cX2_above 49 = .ok (.goto (-28), 3) := by decide +kernel
theorem dX2_above_52 : decode cX2_above 52 = .ok (.iconst (-1), 1) := by decide +kernel
theorem dX2_above_53 : decode cX2_above 53 = .ok (.ireturn, 1) := by decide +kernel
set_option maxRecDepth 20000 in
theorem ggX2_could_X2_above : GoodIn wsX2_could wsX2_above := goodIn_r _ [6, 7, 8, 9, 10, 11, 12, 5, 13, 14, 15, 16, 17, 18, 19, 20, 21, 22, 23, 24, 25, 26, 27, 28, 29, 30, 31, 32, 33, 34, 35, 36, 37, 38, 39, 40, 41, 42, 43, 44, 45, 46, 47, 48, 49, 50, 51, 52, 53, 54, 55, 56, 57, 58, 59, 60, 61, 62, 63, 64, 65, 66, 67, 68, 69, 70, 71, 72, 73, 74, 75, 76, 77, 78, 79, 80, 81, 82, 83, 84, 85, 86, 87, 88, 89, 90, 91, 92, 93, 94, 95] (by decide +kernel) (by decide +kernel)
set_option maxRecDepth 20000 in
theorem gX2_could_X2_above : GoodIn wsX2_could (wsV RX2 129 RX2 yX2_above wsX2_above) := goodIn_app (goodIn_of _ (by decide +kernel)) ggX2_could_X2_above
theorem dX2_could_0 : decode cX2_could 0 = .ok (.aload_n 0, 1) := by decide +kernel
theorem dX2_could_1 : decode cX2_could 1 = .ok (.iconst 0, 1) := by decide +kernel
theorem dX2_could_2 : decode cX2_could 2 = .ok (.putfield 66, 3) := by decide +kernel
theorem dX2_could_5 : decode cX2_could 5 = .ok (.aload_n 0, 1) := by decide +kernel
theorem dX2_could_6 : decode cX2_could 6 = .ok (.iload_n 1, 1) := by decide +kernel
theorem dX2_could_7 : decode cX2_could 7 = .ok (.iconst 5, 1) := by decide +kernel
theorem dX2_could_8 : decode cX2_could 8 = .ok (.invokevirtual 129, 3) := by decide +kernel
theorem dX2_could_11 : decode cX2_could 11 = .ok (.ireturn, 1) := by decide +kernel
set_option maxRecDepth 20000 in
theorem ggX2_surely_X2_above : GoodIn wsX2_surely wsX2_above := goodIn_r _ [6, 7, 8, 9, 10, 11, 12, 5, 13, 14, 15, 16, 17, 18, 19, 20, 21, 22, 23, 24, 25, 26, 27, 28, 29, 30, 31, 32, 33, 34, 35, 36, 37, 38, 39, 40, 41, 42, 43, 44, 45, 46, 47, 48, 49, 50, 51, 52, 53, 54, 55, 56, 57, 58, 59, 60, 61, 62, 63, 64, 65, 66, 67, 68, 69, 70, 71, 72, 73, 74, 75, 76, 77, 78, 79, 80, 81, 82, 83, 84, 85, 86, 87, 88, 89, 90, 91, 92, 93, 94, 95] (by decide +kernel) (by decide +kernel)
set_option maxRecDepth 20000 in
theorem gX2_surely_X2_above : GoodIn wsX2_surely (wsV RX2 129 RX2 yX2_above wsX2_above) := goodIn_app (goodIn_of _ (by decide +kernel)) ggX2_surely_X2_above
theorem dX2_surely_0 : decode cX2_surely 0 = .ok (.aload_n 0, 1) := by decide +kernel
theorem dX2_surely_1 : decode cX2_surely 1 = .ok (.iconst 0, 1) := by decide +kernel
theorem dX2_surely_2 : decode cX2_surely 2 = .ok (.putfield 66, 3) := by decide +kernel
theorem dX2_surely_5 : decode cX2_surely 5 = .ok (.aload_n 0, 1) := by decide +kernel
theorem dX2_surely_6 : decode cX2_surely 6 = .ok (.iload_n 1, 1) := by decide +kernel
theorem dX2_surely_7 : decode cX2_surely 7 = .ok (.iconst 4, 1) := by decide +kernel
theorem dX2_surely_8 : decode cX2_surely 8 = .ok (.invokevirtual 129, 3) := by decide +kernel
theorem dX2_surely_11 : decode cX2_surely 11 = .ok (.ireturn, 1) := by decide +kernel
set_option maxRecDepth 20000 in
theorem ggX2_through_X2_isRow : GoodIn wsX2_through wsX2_isRow := goodIn_r _ [10, 11, 12, 78, 79, 80, 81, 82, 83, 84, 85, 86, 87, 88, 89, 90, 91, 92, 93, 94, 95, 96, 97, 98] (by decide +kernel) (by decide +kernel)
set_option maxRecDepth 20000 in
theorem gX2_through_X2_isRow : GoodIn wsX2_through (wsV RX2 75 RX2 yX2_isRow wsX2_isRow) := goodIn_app (goodIn_of _ (by decide +kernel)) ggX2_through_X2_isRow
set_option maxRecDepth 20000 in
theorem ggX2_through_X2_fails : GoodIn wsX2_through wsX2_fails := goodIn_r _ [16, 1, 78, 79, 80, 81, 82, 83, 84, 85, 86, 87, 88, 89, 90, 91, 92, 93, 94, 95, 96, 97, 98] (by decide +kernel) (by decide +kernel)
set_option maxRecDepth 20000 in
theorem gX2_through_X2_fails : GoodIn wsX2_through (wsV RX2 120 RX2 yX2_fails wsX2_fails) := goodIn_app (goodIn_of _ (by decide +kernel)) ggX2_through_X2_fails
set_option maxRecDepth 20000 in
theorem ggX2_through_X2_work : GoodIn wsX2_through wsX2_work := goodIn_r _ [20, 21, 12, 22, 3, 2, 23, 24, 25, 9, 26, 27, 28, 4, 29, 30, 31, 32, 33, 34, 35, 36, 37, 38, 39, 40, 41, 42, 43, 44, 45, 46, 47, 48, 49, 50, 51, 11, 5, 52, 53, 54, 55, 56, 57, 58, 59, 60, 61, 62, 63, 64, 65, 66, 67, 68, 69, 70, 71, 72, 73, 74, 75, 76, 77, 78, 79, 80, 81, 82, 83, 84, 85, 86, 87, 88, 89, 90, 91, 92, 93, 94, 95, 96, 97, 98] (by decide +kernel) (by decide +kernel)
set_option maxRecDepth 20000 in
theorem gX2_through_X2_work : GoodIn wsX2_through (wsV RX2 124 RX2 yX2_work wsX2_work) := goodIn_app (goodIn_of _ (by decide +kernel)) ggX2_through_X2_work
set_option maxRecDepth 20000 in
theorem ggX2_through_X2_moves : GoodIn wsX2_through wsX2_moves := goodIn_r _ [51, 4, 11, 5, 52, 53, 54, 9, 55, 56, 57, 58, 59, 60, 61, 62, 21, 38, 39, 40, 63, 64, 65, 66, 67, 68, 69, 70, 71, 72, 78, 79, 80, 81, 82, 83, 84, 85, 86, 87, 88, 89, 90, 91, 92, 93, 94, 95, 96, 97, 98] (by decide +kernel) (by decide +kernel)
