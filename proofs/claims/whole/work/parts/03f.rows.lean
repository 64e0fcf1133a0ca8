theorem dX9_boundary_109 : decode cX9_boundary 109 = .ok (.putfield 79, 3) := by decide +kernel
theorem dX9_boundary_112 : decode cX9_boundary 112 = .ok (.aload_n 0, 1) := by decide +kernel
theorem dX9_boundary_113 : decode cX9_boundary 113 = .ok (.iconst 0, 1) := by decide +kernel
theorem dX9_boundary_114 : decode cX9_boundary 114 = .ok (.putfield 65, 3) := by decide +kernel
theorem dX9_boundary_117 : decode cX9_boundary 117 = .ok (.aload_n 0, 1) := by decide +kernel
theorem dX9_boundary_118 : decode cX9_boundary 118 = .ok (.iconst 0, 1) := by decide +kernel
theorem dX9_boundary_119 : decode cX9_boundary 119 = .ok (.putfield 68, 3) := by decide +kernel
theorem dX9_boundary_122 : decode cX9_boundary 122 = .ok (.aload_n 0, 1) := by decide +kernel
theorem dX9_boundary_123 : decode cX9_boundary 123 = .ok (.getfield 71, 3) := by decide +kernel
theorem dX9_boundary_126 : decode cX9_boundary 126 = .ok (.ifCond .eq 8, 3) := by decide +kernel
theorem dX9_boundary_129 : decode cX9_boundary 129 = .ok (.aload_n 0, 1) := by decide +kernel
theorem dX9_boundary_130 : decode cX9_boundary 130 = .ok (.iconst 5, 1) := by decide +kernel
theorem dX9_boundary_131 : decode cX9_boundary 131 = .ok (.invokevirtual 75, 3) := by decide +kernel
theorem dX9_boundary_134 : decode cX9_boundary 134 = .ok (.aload_n 0, 1) := by decide +kernel
theorem dX9_boundary_135 : decode cX9_boundary 135 = .ok (.iconst 0, 1) := by decide +kernel
theorem dX9_boundary_136 : decode cX9_boundary 136 = .ok (.putfield 71, 3) := by decide +kernel
theorem dX9_boundary_139 : decode cX9_boundary 139 = .ok (.aload_n 0, 1) := by decide +kernel
theorem dX9_boundary_140 : decode cX9_boundary 140 = .ok (.getfield 55, 3) := by decide +kernel
theorem dX9_boundary_143 : decode cX9_boundary 143 = .ok (.aload_n 0, 1) := by decide +kernel
theorem dX9_boundary_144 : decode cX9_boundary 144 = .ok (.getfield 82, 3) := by decide +kernel
theorem dX9_boundary_147 : decode cX9_boundary 147 = .ok (.isub, 1) := by decide +kernel
theorem dX9_boundary_148 : decode cX9_boundary 148 = .ok (.bipush 25, 2) := by decide +kernel
theorem dX9_boundary_150 : decode cX9_boundary 150 = .ok (.idiv, 1) := by decide +kernel
theorem dX9_boundary_151 : decode cX9_boundary 151 = .ok (.istore 4, 2) := by decide +kernel
theorem dX9_boundary_153 : decode cX9_boundary 153 = .ok (.aload_n 0, 1) := by decide +kernel
theorem dX9_boundary_154 : decode cX9_boundary 154 = .ok (.getfield 33, 3) := by decide +kernel
theorem dX9_boundary_157 : decode cX9_boundary 157 = .ok (.iload 4, 2) := by decide +kernel
theorem dX9_boundary_159 : decode cX9_boundary 159 = .ok (.bipush 7, 2) := by decide +kernel
theorem dX9_boundary_161 : decode cX9_boundary 161 = .ok (.if_icmp .ge 8, 3) := by decide +kernel
theorem dX9_boundary_164 : decode cX9_boundary 164 = .ok (.iload 4, 2) := by decide +kernel
theorem dX9_boundary_166 : decode cX9_boundary 166 = .ok (.goto 5, 3) := by decide +kernel
theorem dX9_boundary_169 : decode cX9_boundary 169 = .ok (.bipush 7, 2) := by decide +kernel
theorem dX9_boundary_171 : decode cX9_boundary 171 = .ok (.dup2, 1) := by decide +kernel
theorem dX9_boundary_172 : decode cX9_boundary 172 = .ok (.iaload, 1) := by decide +kernel
theorem dX9_boundary_173 : decode cX9_boundary 173 = .ok (.iconst 1, 1) := by decide +kernel
theorem dX9_boundary_174 : decode cX9_boundary 174 = .ok (.iadd, 1) := by decide +kernel
theorem dX9_boundary_175 : decode cX9_boundary 175 = .ok (.iastore, 1) := by decide +kernel
theorem dX9_boundary_176 : decode cX9_boundary 176 = .ok (.aload_n 0, 1) := by decide +kernel
theorem dX9_boundary_177 : decode cX9_boundary 177 = .ok (.aload_n 0, 1) := by decide +kernel
theorem dX9_boundary_178 : decode cX9_boundary 178 = .ok (.getfield 55, 3) := by decide +kernel
theorem dX9_boundary_181 : decode cX9_boundary 181 = .ok (.putfield 82, 3) := by decide +kernel
theorem dX9_boundary_184 : decode cX9_boundary 184 = .ok (.aload_n 0, 1) := by decide +kernel
theorem dX9_boundary_185 : decode cX9_boundary 185 = .ok (.getfield 16, 3) := by decide +kernel
theorem dX9_boundary_188 : decode cX9_boundary 188 = .ok (.iconst 1, 1) := by decide +kernel
theorem dX9_boundary_189 : decode cX9_boundary 189 = .ok (.iaload, 1) := by decide +kernel
theorem dX9_boundary_190 : decode cX9_boundary 190 = .ok (.aload_n 0, 1) := by decide +kernel
theorem dX9_boundary_191 : decode cX9_boundary 191 = .ok (.getfield 16, 3) := by decide +kernel
theorem dX9_boundary_194 : decode cX9_boundary 194 = .ok (.iconst 1, 1) := by decide +kernel
theorem dX9_boundary_195 : decode cX9_boundary 195 = .ok (.iaload, 1) := by decide +kernel
theorem dX9_boundary_196 : decode cX9_boundary 196 = .ok (.aload_n 0, 1) := by decide +kernel
theorem dX9_boundary_197 : decode cX9_boundary 197 = .ok (.getfield 16, 3) := by decide +kernel
theorem dX9_boundary_200 : decode cX9_boundary 200 = .ok (.bipush 12, 2) := by decide +kernel
theorem dX9_boundary_202 : decode cX9_boundary 202 = .ok (.iaload, 1) := by decide +kernel
theorem dX9_boundary_203 : decode cX9_boundary 203 = .ok (.isub, 1) := by decide +kernel
theorem dX9_boundary_204 : decode cX9_boundary 204 = .ok (.aload_n 0, 1) := by decide +kernel
theorem dX9_boundary_205 : decode cX9_boundary 205 = .ok (.getfield 85, 3) := by decide +kernel
theorem dX9_boundary_208 : decode cX9_boundary 208 = .ok (.imul, 1) := by decide +kernel
theorem dX9_boundary_209 : decode cX9_boundary 209 = .ok (.sipush 4080, 3) := by decide +kernel
theorem dX9_boundary_212 : decode cX9_boundary 212 = .ok (.idiv, 1) := by decide +kernel
theorem dX9_boundary_213 : decode cX9_boundary 213 = .ok (.isub, 1) := by decide +kernel
theorem dX9_boundary_214 : decode cX9_boundary 214 = .ok (.istore 5, 2) := by decide +kernel
theorem dX9_boundary_216 : decode cX9_boundary 216 = .ok (.iload 5, 2) := by decide +kernel
theorem dX9_boundary_218 : decode cX9_boundary 218 = .ok (.aload_n 0, 1) := by decide +kernel
theorem dX9_boundary_219 : decode cX9_boundary 219 = .ok (.getfield 26, 3) := by decide +kernel
theorem dX9_boundary_222 : decode cX9_boundary 222 = .ok (.isub, 1) := by decide +kernel
theorem dX9_boundary_223 : decode cX9_boundary 223 = .ok (.istore 6, 2) := by decide +kernel
theorem dX9_boundary_225 : decode cX9_boundary 225 = .ok (.aload_n 0, 1) := by decide +kernel
theorem dX9_boundary_226 : decode cX9_boundary 226 = .ok (.iload 6, 2) := by decide +kernel
theorem dX9_boundary_228 : decode cX9_boundary 228 = .ok (.iconst 4, 1) := by decide +kernel
theorem dX9_boundary_229 : decode cX9_boundary 229 = .ok (.if_icmp .le 12, 3) := by decide +kernel
theorem dX9_boundary_232 : decode cX9_boundary 232 = .ok (.aload_n 0, 1) := by decide +kernel
theorem dX9_boundary_233 : decode cX9_boundary 233 = .ok (.getfield 26, 3) := by decide +kernel
theorem dX9_boundary_236 : decode cX9_boundary 236 = .ok (.iconst 4, 1) := by decide +kernel
theorem dX9_boundary_237 : decode cX9_boundary 237 = .ok (.iadd, 1) := by decide +kernel
theorem dX9_boundary_238 : decode cX9_boundary 238 = .ok (.goto 21, 3) := by decide +kernel
theorem dX9_boundary_241 : decode cX9_boundary 241 = .ok (.iload 6, 2) := by decide +kernel
theorem dX9_boundary_243 : decode cX9_boundary 243 = .ok (.bipush (-4), 2) := by decide +kernel
theorem dX9_boundary_245 : decode cX9_boundary 245 = .ok (.if_icmp .ge 12, 3) := by decide +kernel
theorem dX9_boundary_248 : decode cX9_boundary 248 = .ok (.aload_n 0, 1) := by decide +kernel
theorem dX9_boundary_249 : decode cX9_boundary 249 = .ok (.getfield 26, 3) := by decide +kernel
theorem dX9_boundary_252 : decode cX9_boundary 252 = .ok (.iconst 4, 1) := by decide +kernel
theorem dX9_boundary_253 : decode cX9_boundary 253 = .ok (.isub, 1) := by decide +kernel
theorem dX9_boundary_254 : decode cX9_boundary 254 = .ok (.goto 5, 3) := by decide +kernel
theorem dX9_boundary_257 : decode cX9_boundary 257 = .ok (.iload 5, 2) := by decide +kernel
theorem dX9_boundary_259 : decode cX9_boundary 259 = .ok (.putfield 26, 3) := by decide +kernel
theorem dX9_boundary_262 : decode cX9_boundary 262 = .ok (.aload_n 0, 1) := by decide +kernel
theorem dX9_boundary_263 : decode cX9_boundary 263 = .ok (.aload_n 0, 1) := by decide +kernel
theorem dX9_boundary_264 : decode cX9_boundary 264 = .ok (.getfield 16, 3) := by decide +kernel
theorem dX9_boundary_267 : decode cX9_boundary 267 = .ok (.iconst 1, 1) := by decide +kernel
theorem dX9_boundary_268 : decode cX9_boundary 268 = .ok (.iaload, 1) := by decide +kernel
theorem dX9_boundary_269 : decode cX9_boundary 269 = .ok (.iload_n 1, 1) := by decide +kernel
theorem dX9_boundary_270 : decode cX9_boundary 270 = .ok (.ifCond .eq 13, 3) := by decide +kernel
theorem dX9_boundary_273 : decode cX9_boundary 273 = .ok (.aload_n 0, 1) := by decide +kernel
theorem dX9_boundary_274 : decode cX9_boundary 274 = .ok (.getfield 16, 3) := by decide +kernel
theorem dX9_boundary_277 : decode cX9_boundary 277 = .ok (.bipush 8, 2) := by decide +kernel
theorem dX9_boundary_279 : decode cX9_boundary 279 = .ok (.iaload, 1) := by decide +kernel
theorem dX9_boundary_280 : decode cX9_boundary 280 = .ok (.goto 4, 3) := by decide +kernel
theorem dX9_boundary_283 : decode cX9_boundary 283 = .ok (.iconst 0, 1) := by decide +kernel
theorem dX9_boundary_284 : decode cX9_boundary 284 = .ok (.iadd, 1) := by decide +kernel
theorem dX9_boundary_285 : decode cX9_boundary 285 = .ok (.putfield 30, 3) := by decide +kernel
theorem dX9_boundary_288 : decode cX9_boundary 288 = .ok (.aload_n 0, 1) := by decide +kernel
theorem dX9_boundary_289 : decode cX9_boundary 289 = .ok (.aload_n 0, 1) := by decide +kernel
theorem dX9_boundary_290 : decode cX9_boundary 290 = .ok (.getfield 16, 3) := by decide +kernel
theorem dX9_boundary_293 : decode cX9_boundary 293 = .ok (.bipush 11, 2) := by decide +kernel
theorem dX9_boundary_295 : decode cX9_boundary 295 = .ok (.iaload, 1) := by decide +kernel
theorem dX9_boundary_296 : decode cX9_boundary 296 = .ok (.iconst 1, 1) := by decide +kernel
theorem dX9_boundary_297 : decode cX9_boundary 297 = .ok (.if_icmp .ne 21, 3) := by decide +kernel
theorem dX9_boundary_300 : decode cX9_boundary 300 = .ok (.aload_n 0, 1) := by decide +kernel
theorem dX9_boundary_301 : decode cX9_boundary 301 = .ok (.getfield 26, 3) := by decide +kernel
theorem dX9_boundary_304 : decode cX9_boundary 304 = .ok (.aload_n 0, 1) := by decide +kernel
theorem dX9_boundary_305 : decode cX9_boundary 305 = .ok (.getfield 30, 3) := by decide +kernel
theorem dX9_boundary_308 : decode cX9_boundary 308 = .ok (.if_icmp .ge 10, 3) := by decide +kernel
theorem dX9_boundary_311 : decode cX9_boundary 311 = .ok (.aload_n 0, 1) := by decide +kernel
theorem dX9_boundary_312 : decode cX9_boundary 312 = .ok (.getfield 26, 3) := by decide +kernel
theorem dX9_boundary_315 : decode cX9_boundary 315 = .ok (.goto 7, 3) := by decide +kernel
theorem dX9_boundary_318 : decode cX9_boundary 318 = .ok (.aload_n 0, 1) := by decide +kernel
theorem dX9_boundary_319 : decode cX9_boundary 319 = .ok (.getfield 30, 3) := by decide +kernel
theorem dX9_boundary_322 : decode cX9_boundary 322 = .ok (.putfield 30, 3) := by decide +kernel
theorem dX9_boundary_325 : decode cX9_boundary 325 = .ok (.return_, 1) := by decide +kernel
set_option maxRecDepth 20000 in
theorem ggX9_atrialEvent_X9_mode : GoodIn wsX9_atrialEvent wsX9_mode := goodIn_r _ [11, 12, 38, 39, 40, 41, 42, 43, 44, 45, 46, 47, 48, 49, 50, 51, 52, 53, 54, 55, 56, 57, 58, 59, 60, 61, 62, 63, 64, 65, 66, 67, 68] (by decide +kernel) (by decide +kernel)
set_option maxRecDepth 20000 in
theorem gX9_atrialEvent_X9_mode : GoodIn wsX9_atrialEvent (wsV RX9 58 RX9 yX9_mode wsX9_mode) := goodIn_app (goodIn_of _ (by decide +kernel)) ggX9_atrialEvent_X9_mode
set_option maxRecDepth 20000 in
theorem ggX9_atrialEvent_X9_mark : GoodIn wsX9_atrialEvent wsX9_mark := goodIn_r _ [16, 17, 18, 19, 20, 38, 39, 40, 41, 42, 43, 44, 45, 46, 47, 48, 49, 50, 51, 52, 53, 54, 55, 56, 57, 58, 59, 60, 61, 62, 63, 64, 65, 66, 67, 68] (by decide +kernel) (by decide +kernel)
set_option maxRecDepth 20000 in
theorem gX9_atrialEvent_X9_mark : GoodIn wsX9_atrialEvent (wsV RX9 75 RX9 yX9_mark wsX9_mark) := goodIn_app (goodIn_of _ (by decide +kernel)) ggX9_atrialEvent_X9_mark
set_option maxRecDepth 20000 in
theorem ggX9_atrialEvent_X9_tooFast : GoodIn wsX9_atrialEvent wsX9_tooFast := goodIn_r _ [24, 1, 12, 25, 26, 4, 7, 8, 9, 10, 11, 13, 14, 15, 16, 17, 18, 19, 20, 38, 39, 40, 41, 42, 43, 44, 45, 46, 47, 48, 49, 50, 51, 52, 53, 54, 55, 56, 57, 58, 59, 60, 61, 62, 63, 64, 65, 66, 67, 68] (by decide +kernel) (by decide +kernel)
set_option maxRecDepth 20000 in
theorem gX9_atrialEvent_X9_tooFast : GoodIn wsX9_atrialEvent (wsV RX9 88 RX9 yX9_tooFast wsX9_tooFast) := goodIn_app (goodIn_of _ (by decide +kernel)) ggX9_atrialEvent_X9_tooFast
set_option maxRecDepth 20000 in
theorem ggX9_atrialEvent_X9_boundary : GoodIn wsX9_atrialEvent wsX9_boundary := goodIn_r _ [30, 12, 31, 32, 5, 25, 26, 4, 20, 33, 34, 35, 36, 37, 13, 14, 15, 10, 16, 17, 18, 19, 38, 39, 40, 41, 42, 43, 44, 45, 46, 47, 48, 49, 50, 51, 52, 53, 54, 55, 56, 57, 58, 59, 60, 61, 62, 63, 64, 65, 66, 67, 68] (by decide +kernel) (by decide +kernel)
set_option maxRecDepth 20000 in
theorem gX9_atrialEvent_X9_boundary : GoodIn wsX9_atrialEvent (wsV RX9 100 RX9 yX9_boundary wsX9_boundary) := goodIn_app (goodIn_of _ (by decide +kernel)) ggX9_atrialEvent_X9_boundary
theorem dX9_atrialEvent_0 : decode cX9_atrialEvent 0 = .ok (.aload_n 0, 1) := by decide +kernel
theorem dX9_atrialEvent_1 : decode cX9_atrialEvent 1 = .ok (.bipush 18, 2) := by decide +kernel
theorem dX9_atrialEvent_3 : decode cX9_atrialEvent 3 = .ok (.invokevirtual 58, 3) := by decide +kernel
theorem dX9_atrialEvent_6 : decode cX9_atrialEvent 6 = .ok (.istore_n 2, 1) := by decide +kernel
theorem dX9_atrialEvent_7 : decode cX9_atrialEvent 7 = .ok (.aload_n 0, 1) := by decide +kernel
theorem dX9_atrialEvent_8 : decode cX9_atrialEvent 8 = .ok (.iload_n 1, 1) := by decide +kernel
theorem dX9_atrialEvent_9 : decode cX9_atrialEvent 9 = .ok (.ifCond .eq 7, 3) := by decide +kernel
theorem dX9_atrialEvent_12 : decode cX9_atrialEvent 12 = .ok (.iconst 0, 1) := by decide +kernel
theorem dX9_atrialEvent_13 : decode cX9_atrialEvent 13 = .ok (.goto 4, 3) := by decide +kernel
theorem dX9_atrialEvent_16 : decode cX9_atrialEvent 16 = .ok (.iconst 2, 1) := by decide +kernel
theorem dX9_atrialEvent_17 : decode cX9_atrialEvent 17 = .ok (.invokevirtual 75, 3) := by decide +kernel
theorem dX9_atrialEvent_20 : decode cX9_atrialEvent 20 = .ok (.iload_n 1, 1) := by decide +kernel
theorem dX9_atrialEvent_21 : decode cX9_atrialEvent 21 = .ok (.ifCond .eq 7, 3) := by decide +kernel
theorem dX9_atrialEvent_24 : decode cX9_atrialEvent 24 = .ok (.aload_n 0, 1) := by decide +kernel
theorem dX9_atrialEvent_25 : decode cX9_atrialEvent 25 = .ok (.invokevirtual 88, 3) := by decide +kernel
theorem dX9_atrialEvent_28 : decode cX9_atrialEvent 28 = .ok (.aload_n 0, 1) := by decide +kernel
theorem dX9_atrialEvent_29 : decode cX9_atrialEvent 29 = .ok (.iconst 0, 1) := by decide +kernel
theorem dX9_atrialEvent_30 : decode cX9_atrialEvent 30 = .ok (.putfield 62, 3) := by decide +kernel
theorem dX9_atrialEvent_33 : decode cX9_atrialEvent 33 = .ok (.aload_n 0, 1) := by decide +kernel
theorem dX9_atrialEvent_34 : decode cX9_atrialEvent 34 = .ok (.iload_n 1, 1) := by decide +kernel
theorem dX9_atrialEvent_35 : decode cX9_atrialEvent 35 = .ok (.ifCond .eq 10, 3) := by decide +kernel
theorem dX9_atrialEvent_38 : decode cX9_atrialEvent 38 = .ok (.aload_n 0, 1) := by decide +kernel
theorem dX9_atrialEvent_39 : decode cX9_atrialEvent 39 = .ok (.getfield 91, 3) := by decide +kernel
theorem dX9_atrialEvent_42 : decode cX9_atrialEvent 42 = .ok (.goto 4, 3) := by decide +kernel
theorem dX9_atrialEvent_45 : decode cX9_atrialEvent 45 = .ok (.iconst 0, 1) := by decide +kernel
theorem dX9_atrialEvent_46 : decode cX9_atrialEvent 46 = .ok (.putfield 91, 3) := by decide +kernel
theorem dX9_atrialEvent_49 : decode cX9_atrialEvent 49 = .ok (.aload_n 0, 1) := by decide +kernel
theorem dX9_atrialEvent_50 : decode cX9_atrialEvent 50 = .ok (.iconst 1, 1) := by decide +kernel
theorem dX9_atrialEvent_51 : decode cX9_atrialEvent 51 = .ok (.putfield 94, 3) := by decide +kernel
theorem dX9_atrialEvent_54 : decode cX9_atrialEvent 54 = .ok (.iload_n 1, 1) := by decide +kernel
theorem dX9_atrialEvent_55 : decode cX9_atrialEvent 55 = .ok (.ifCond .eq 35, 3) := by decide +kernel
theorem dX9_atrialEvent_58 : decode cX9_atrialEvent 58 = .ok (.aload_n 0, 1) := by decide +kernel
theorem dX9_atrialEvent_59 : decode cX9_atrialEvent 59 = .ok (.sipush 160, 3) := by decide +kernel
theorem dX9_atrialEvent_62 : decode cX9_atrialEvent 62 = .ok (.invokevirtual 58, 3) := by decide +kernel
theorem dX9_atrialEvent_65 : decode cX9_atrialEvent 65 = .ok (.ifCond .eq 21, 3) := by decide +kernel
theorem dX9_atrialEvent_68 : decode cX9_atrialEvent 68 = .ok (.aload_n 0, 1) := by decide +kernel
theorem dX9_atrialEvent_69 : decode cX9_atrialEvent 69 = .ok (.getfield 71, 3) := by decide +kernel
theorem dX9_atrialEvent_72 : decode cX9_atrialEvent 72 = .ok (.ifCond .ne 14, 3) := by decide +kernel
theorem dX9_atrialEvent_75 : decode cX9_atrialEvent 75 = .ok (.aload_n 0, 1) := by decide +kernel
theorem dX9_atrialEvent_76 : decode cX9_atrialEvent 76 = .ok (.getfield 79, 3) := by decide +kernel
theorem dX9_atrialEvent_79 : decode cX9_atrialEvent 79 = .ok (.ifCond .ne 7, 3) := by decide +kernel
theorem dX9_atrialEvent_82 : decode cX9_atrialEvent 82 = .ok (.iconst 1, 1) := by decide +kernel
theorem dX9_atrialEvent_83 : decode cX9_atrialEvent 83 = .ok (.goto 14, 3) := by decide +kernel
theorem dX9_atrialEvent_86 : decode cX9_atrialEvent 86 = .ok (.iconst 0, 1) := by decide +kernel
theorem dX9_atrialEvent_87 : decode cX9_atrialEvent 87 = .ok (.goto 10, 3) := by decide +kernel
theorem dX9_atrialEvent_90 : decode cX9_atrialEvent 90 = .ok (.aload_n 0, 1) := by decide +kernel
theorem dX9_atrialEvent_91 : decode cX9_atrialEvent 91 = .ok (.sipush 196, 3) := by decide +kernel
theorem dX9_atrialEvent_94 : decode cX9_atrialEvent 94 = .ok (.invokevirtual 58, 3) := by decide +kernel
theorem dX9_atrialEvent_97 : decode cX9_atrialEvent 97 = .ok (.istore_n 3, 1) := by decide +kernel
theorem dX9_atrialEvent_98 : decode cX9_atrialEvent 98 = .ok (.iload_n 3, 1) := by decide +kernel
theorem dX9_atrialEvent_99 : decode cX9_atrialEvent 99 = .ok (.ifCond .eq 13, 3) := by decide +kernel
theorem dX9_atrialEvent_102 : decode cX9_atrialEvent 102 = .ok (.aload_n 0, 1) := by decide +kernel
theorem dX9_atrialEvent_103 : decode cX9_atrialEvent 103 = .ok (.iconst 1, 1) := by decide +kernel
theorem dX9_atrialEvent_104 : decode cX9_atrialEvent 104 = .ok (.putfield 79, 3) := by decide +kernel
theorem dX9_atrialEvent_107 : decode cX9_atrialEvent 107 = .ok (.aload_n 0, 1) := by decide +kernel
theorem dX9_atrialEvent_108 : decode cX9_atrialEvent 108 = .ok (.iconst 0, 1) := by decide +kernel
theorem dX9_atrialEvent_109 : decode cX9_atrialEvent 109 = .ok (.putfield 97, 3) := by decide +kernel
theorem dX9_atrialEvent_112 : decode cX9_atrialEvent 112 = .ok (.iload_n 2, 1) := by decide +kernel
theorem dX9_atrialEvent_113 : decode cX9_atrialEvent 113 = .ok (.ifCond .eq 8, 3) := by decide +kernel
theorem dX9_atrialEvent_116 : decode cX9_atrialEvent 116 = .ok (.aload_n 0, 1) := by decide +kernel
theorem dX9_atrialEvent_117 : decode cX9_atrialEvent 117 = .ok (.iload_n 1, 1) := by decide +kernel
theorem dX9_atrialEvent_118 : decode cX9_atrialEvent 118 = .ok (.invokevirtual 100, 3) := by decide +kernel
theorem dX9_atrialEvent_121 : decode cX9_atrialEvent 121 = .ok (.return_, 1) := by decide +kernel
set_option maxRecDepth 20000 in
theorem ggX9_ventricularEvent_X9_mode : GoodIn wsX9_ventricularEvent wsX9_mode := goodIn_r _ [8, 9, 32, 33, 34, 35, 36, 37, 38, 39, 40, 41, 42, 43, 44, 45, 46, 47, 48, 49, 50, 51, 52, 53, 54, 55, 56, 57, 58, 59, 60, 61, 62] (by decide +kernel) (by decide +kernel)
set_option maxRecDepth 20000 in
theorem gX9_ventricularEvent_X9_mode : GoodIn wsX9_ventricularEvent (wsV RX9 58 RX9 yX9_mode wsX9_mode) := goodIn_app (goodIn_of _ (by decide +kernel)) ggX9_ventricularEvent_X9_mode
set_option maxRecDepth 20000 in
theorem ggX9_ventricularEvent_X9_mark : GoodIn wsX9_ventricularEvent wsX9_mark := goodIn_r _ [13, 14, 15, 16, 17, 32, 33, 34, 35, 36, 37, 38, 39, 40, 41, 42, 43, 44, 45, 46, 47, 48, 49, 50, 51, 52, 53, 54, 55, 56, 57, 58, 59, 60, 61, 62] (by decide +kernel) (by decide +kernel)
set_option maxRecDepth 20000 in
theorem gX9_ventricularEvent_X9_mark : GoodIn wsX9_ventricularEvent (wsV RX9 75 RX9 yX9_mark wsX9_mark) := goodIn_app (goodIn_of _ (by decide +kernel)) ggX9_ventricularEvent_X9_mark
set_option maxRecDepth 20000 in
theorem ggX9_ventricularEvent_X9_boundary : GoodIn wsX9_ventricularEvent wsX9_boundary := goodIn_r _ [21, 9, 22, 23, 2, 24, 25, 26, 17, 27, 28, 29, 30, 31, 10, 11, 12, 7, 13, 14, 15, 16, 32, 33, 34, 35, 36, 37, 38, 39, 40, 41, 42, 43, 44, 45, 46, 47, 48, 49, 50, 51, 52, 53, 54, 55, 56, 57, 58, 59, 60, 61, 62] (by decide +kernel) (by decide +kernel)
set_option maxRecDepth 20000 in
theorem gX9_ventricularEvent_X9_boundary : GoodIn wsX9_ventricularEvent (wsV RX9 100 RX9 yX9_boundary wsX9_boundary) := goodIn_app (goodIn_of _ (by decide +kernel)) ggX9_ventricularEvent_X9_boundary
theorem dX9_ventricularEvent_0 : decode cX9_ventricularEvent 0 = .ok (.aload_n 0, 1) := by decide +kernel
theorem dX9_ventricularEvent_1 : decode cX9_ventricularEvent 1 = .ok (.bipush 18, 2) := by decide +kernel
theorem dX9_ventricularEvent_3 : decode cX9_ventricularEvent 3 = .ok (.invokevirtual 58, 3) := by decide +kernel
theorem dX9_ventricularEvent_6 : decode cX9_ventricularEvent 6 = .ok (.ifCond .ne 7, 3) := by decide +kernel
theorem dX9_ventricularEvent_9 : decode cX9_ventricularEvent 9 = .ok (.iconst 1, 1) := by decide +kernel
theorem dX9_ventricularEvent_10 : decode cX9_ventricularEvent 10 = .ok (.goto 4, 3) := by decide +kernel
theorem dX9_ventricularEvent_13 : decode cX9_ventricularEvent 13 = .ok (.iconst 0, 1) := by decide +kernel
theorem dX9_ventricularEvent_14 : decode cX9_ventricularEvent 14 = .ok (.istore_n 2, 1) := by decide +kernel
theorem dX9_ventricularEvent_15 : decode cX9_ventricularEvent 15 = .ok (.aload_n 0, 1) := by decide +kernel
theorem dX9_ventricularEvent_16 : decode cX9_ventricularEvent 16 = .ok (.iload_n 1, 1) := by decide +kernel
theorem dX9_ventricularEvent_17 : decode cX9_ventricularEvent 17 = .ok (.ifCond .eq 7, 3) := by decide +kernel
theorem dX9_ventricularEvent_20 : decode cX9_ventricularEvent 20 = .ok (.iconst 1, 1) := by decide +kernel
theorem dX9_ventricularEvent_21 : decode cX9_ventricularEvent 21 = .ok (.goto 4, 3) := by decide +kernel
theorem dX9_ventricularEvent_24 : decode cX9_ventricularEvent 24 = .ok (.iconst 3, 1) := by decide +kernel
theorem dX9_ventricularEvent_25 : decode cX9_ventricularEvent 25 = .ok (.invokevirtual 75, 3) := by decide +kernel
theorem dX9_ventricularEvent_28 : decode cX9_ventricularEvent 28 = .ok (.aload_n 0, 1) := by decide +kernel
theorem dX9_ventricularEvent_29 : decode cX9_ventricularEvent 29 = .ok (.iconst 0, 1) := by decide +kernel
theorem dX9_ventricularEvent_30 : decode cX9_ventricularEvent 30 = .ok (.putfield 104, 3) := by decide +kernel
theorem dX9_ventricularEvent_33 : decode cX9_ventricularEvent 33 = .ok (.aload_n 0, 1) := by decide +kernel
theorem dX9_ventricularEvent_34 : decode cX9_ventricularEvent 34 = .ok (.iconst 0, 1) := by decide +kernel
theorem dX9_ventricularEvent_35 : decode cX9_ventricularEvent 35 = .ok (.putfield 79, 3) := by decide +kernel
theorem dX9_ventricularEvent_38 : decode cX9_ventricularEvent 38 = .ok (.aload_n 0, 1) := by decide +kernel
theorem dX9_ventricularEvent_39 : decode cX9_ventricularEvent 39 = .ok (.iconst 0, 1) := by decide +kernel
theorem dX9_ventricularEvent_40 : decode cX9_ventricularEvent 40 = .ok (.putfield 94, 3) := by decide +kernel
theorem dX9_ventricularEvent_43 : decode cX9_ventricularEvent 43 = .ok (.iload_n 2, 1) := by decide +kernel
theorem dX9_ventricularEvent_44 : decode cX9_ventricularEvent 44 = .ok (.ifCond .eq 8, 3) := by decide +kernel
theorem dX9_ventricularEvent_47 : decode cX9_ventricularEvent 47 = .ok (.aload_n 0, 1) := by decide +kernel
theorem dX9_ventricularEvent_48 : decode cX9_ventricularEvent 48 = .ok (.iload_n 1, 1) := by decide +kernel
theorem dX9_ventricularEvent_49 : decode cX9_ventricularEvent 49 = .ok (.invokevirtual 100, 3) := by decide +kernel
theorem dX9_ventricularEvent_52 : decode cX9_ventricularEvent 52 = .ok (.return_, 1) := by decide +kernel
theorem dX9_near_0 : decode cX9_near 0 = .ok (.iload_n 0, 1) := by decide +kernel
theorem dX9_near_1 : decode cX9_near 1 = .ok (.iload_n 1, 1) := by decide +kernel
theorem dX9_near_2 : decode cX9_near 2 = .ok (.if_icmp .ge 7, 3) := by decide +kernel
theorem dX9_near_5 : decode cX9_near 5 = .ok (.iload_n 1, 1) := by decide +kernel
theorem dX9_near_6 : decode cX9_near 6 = .ok (.goto 13, 3) := by decide +kernel
theorem dX9_near_9 : decode cX9_near 9 = .ok (.iload_n 0, 1) := by decide +kernel
theorem dX9_near_10 : decode cX9_near 10 = .ok (.iload_n 2, 1) := by decide +kernel
theorem dX9_near_11 : decode cX9_near 11 = .ok (.if_icmp .le 7, 3) := by decide +kernel
theorem dX9_near_14 : decode cX9_near 14 = .ok (.iload_n 2, 1) := by decide +kernel
theorem dX9_near_15 : decode cX9_near 15 = .ok (.goto 4, 3) := by decide +kernel
theorem dX9_near_18 : decode cX9_near 18 = .ok (.iload_n 0, 1) := by decide +kernel
theorem dX9_near_19 : decode cX9_near 19 = .ok (.ireturn, 1) := by decide +kernel
theorem dX9_more_0 : decode cX9_more 0 = .ok (.iload_n 0, 1) := by decide +kernel
theorem dX9_more_1 : decode cX9_more 1 = .ok (.sipush 1000, 3) := by decide +kernel
theorem dX9_more_4 : decode cX9_more 4 = .ok (.if_icmp .ge 9, 3) := by decide +kernel
theorem dX9_more_7 : decode cX9_more 7 = .ok (.iload_n 0, 1) := by decide +kernel
theorem dX9_more_8 : decode cX9_more 8 = .ok (.iconst 1, 1) := by decide +kernel
theorem dX9_more_9 : decode cX9_more 9 = .ok (.iadd, 1) := by decide +kernel
theorem dX9_more_10 : decode cX9_more 10 = .ok (.goto 6, 3) := by decide +kernel
theorem dX9_more_13 : decode cX9_more 13 = .ok (.sipush 1000, 3) := by decide +kernel
theorem dX9_more_16 : decode cX9_more 16 = .ok (.ireturn, 1) := by decide +kernel
theorem dX9_apart_0 : decode cX9_apart 0 = .ok (.iload_n 0, 1) := by decide +kernel
theorem dX9_apart_1 : decode cX9_apart 1 = .ok (.iload_n 1, 1) := by decide +kernel
theorem dX9_apart_2 : decode cX9_apart 2 = .ok (.isub, 1) := by decide +kernel
theorem dX9_apart_3 : decode cX9_apart 3 = .ok (.iload_n 2, 1) := by decide +kernel
theorem dX9_apart_4 : decode cX9_apart 4 = .ok (.if_icmp .ge 10, 3) := by decide +kernel
theorem dX9_apart_7 : decode cX9_apart 7 = .ok (.iload_n 1, 1) := by decide +kernel
theorem dX9_apart_8 : decode cX9_apart 8 = .ok (.iload_n 0, 1) := by decide +kernel
theorem dX9_apart_9 : decode cX9_apart 9 = .ok (.isub, 1) := by decide +kernel
theorem dX9_apart_10 : decode cX9_apart 10 = .ok (.iload_n 2, 1) := by decide +kernel
theorem dX9_apart_11 : decode cX9_apart 11 = .ok (.if_icmp .lt 7, 3) := by decide +kernel
theorem dX9_apart_14 : decode cX9_apart 14 = .ok (.iconst 1, 1) := by decide +kernel
theorem dX9_apart_15 : decode cX9_apart 15 = .ok (.goto 4, 3) := by decide +kernel
theorem dX9_apart_18 : decode cX9_apart 18 = .ok (.iconst 0, 1) := by decide +kernel
theorem dX9_apart_19 : decode cX9_apart 19 = .ok (.ireturn, 1) := by decide +kernel
set_option maxRecDepth 20000 in
theorem ggX9_step_X9_more : GoodIn wsX9_step wsX9_more := goodIn_r _ [16] (by decide +kernel) (by decide +kernel)
set_option maxRecDepth 20000 in
theorem gX9_step_X9_more : GoodIn wsX9_step (va_wsS RX9 107 yX9_more wsX9_more) := goodIn_app (goodIn_of _ (by decide +kernel)) ggX9_step_X9_more
set_option maxRecDepth 20000 in
theorem ggX9_step_X9_apart : GoodIn wsX9_step wsX9_apart := goodIn_r _ [19] (by decide +kernel) (by decide +kernel)
set_option maxRecDepth 20000 in
theorem gX9_step_X9_apart : GoodIn wsX9_step (va_wsS RX9 114 yX9_apart wsX9_apart) := goodIn_app (goodIn_of _ (by decide +kernel)) ggX9_step_X9_apart
set_option maxRecDepth 20000 in
theorem ggX9_step_X9_mode : GoodIn wsX9_step wsX9_mode := goodIn_r _ [23, 9, 61, 62, 63, 64, 65, 66, 67, 68, 69, 70, 71, 72, 73, 74, 75, 76, 77, 78, 79, 80, 81, 82, 83, 84, 85, 86, 87, 88, 89, 90, 91] (by decide +kernel) (by decide +kernel)
set_option maxRecDepth 20000 in
theorem gX9_step_X9_mode : GoodIn wsX9_step (wsV RX9 58 RX9 yX9_mode wsX9_mode) := goodIn_app (goodIn_of _ (by decide +kernel)) ggX9_step_X9_mode
set_option maxRecDepth 20000 in
theorem ggX9_step_X9_ventricularEvent : GoodIn wsX9_step wsX9_ventricularEvent := goodIn_r _ [27, 3, 5, 28, 20, 21, 22, 15, 23, 9, 29, 30, 31, 32, 33, 34, 35, 1, 36, 37, 38, 39, 40, 41, 42, 43, 44, 45, 46, 7, 47, 48, 61, 62, 63, 64, 65, 66, 67, 68, 69, 70, 71, 72, 73, 74, 75, 76, 77, 78, 79, 80, 81, 82, 83, 84, 85, 86, 87, 88, 89, 90, 91] (by decide +kernel) (by decide +kernel)
set_option maxRecDepth 20000 in
theorem gX9_step_X9_ventricularEvent : GoodIn wsX9_step (wsV RX9 127 RX9 yX9_ventricularEvent wsX9_ventricularEvent) := goodIn_app (goodIn_of _ (by decide +kernel)) ggX9_step_X9_ventricularEvent
set_option maxRecDepth 20000 in
theorem ggX9_step_X9_atrialEvent : GoodIn wsX9_step wsX9_atrialEvent := goodIn_r _ [52, 2, 4, 28, 44, 5, 6, 20, 21, 22, 15, 23, 9, 29, 30, 31, 32, 33, 34, 35, 1, 53, 54, 55, 56, 42, 43, 36, 37, 38, 39, 40, 41, 45, 46, 7, 47, 48, 61, 62, 63, 64, 65, 66, 67, 68, 69, 70, 71, 72, 73, 74, 75, 76, 77, 78, 79, 80, 81, 82, 83, 84, 85, 86, 87, 88, 89, 90, 91] (by decide +kernel) (by decide +kernel)
set_option maxRecDepth 20000 in
theorem gX9_step_X9_atrialEvent : GoodIn wsX9_step (wsV RX9 130 RX9 yX9_atrialEvent wsX9_atrialEvent) := goodIn_app (goodIn_of _ (by decide +kernel)) ggX9_step_X9_atrialEvent
set_option maxRecDepth 20000 in
theorem ggX9_step_X9_pace : GoodIn wsX9_step wsX9_pace := goodIn_r _ [60, 2, 48, 28, 3, 9, 5, 6, 20, 21, 22, 15, 23, 49, 50, 51, 52, 4, 44, 29, 30, 31, 32, 33, 34, 35, 1, 53, 54, 55, 56, 42, 43, 36, 37, 38, 39, 40, 41, 45, 46, 7, 47, 24, 25, 26, 27, 61, 62, 63, 64, 65, 66, 67, 68, 69, 70, 71, 72, 73, 74, 75, 76, 77, 78, 79, 80, 81, 82, 83, 84, 85, 86, 87, 88, 89, 90, 91] (by decide +kernel) (by decide +kernel)
set_option maxRecDepth 20000 in
theorem gX9_step_X9_pace : GoodIn wsX9_step (wsV RX9 133 RX9 yX9_pace wsX9_pace) := goodIn_app (goodIn_of _ (by decide +kernel)) ggX9_step_X9_pace
theorem dX9_step_0 : decode cX9_step 0 = .ok (.aload_n 0, 1) := by decide +kernel
theorem dX9_step_1 : decode cX9_step 1 = .ok (.dup, 1) := by decide +kernel
theorem dX9_step_2 : decode cX9_step 2 = .ok (.getfield 55, 3) := by decide +kernel
theorem dX9_step_5 : decode cX9_step 5 = .ok (.iconst 1, 1) := by decide +kernel
theorem dX9_step_6 : decode cX9_step 6 = .ok (.iadd, 1) := by decide +kernel
theorem dX9_step_7 : decode cX9_step 7 = .ok (.putfield 55, 3) := by decide +kernel
theorem dX9_step_10 : decode cX9_step 10 = .ok (.aload_n 0, 1) := by decide +kernel
theorem dX9_step_11 : decode cX9_step 11 = .ok (.aload_n 0, 1) := by decide +kernel
theorem dX9_step_12 : decode cX9_step 12 = .ok (.getfield 62, 3) := by decide +kernel
theorem dX9_step_15 : decode cX9_step 15 = .ok (.invokestatic 107, 3) := by decide +kernel
theorem dX9_step_18 : decode cX9_step 18 = .ok (.putfield 62, 3) := by decide +kernel
theorem dX9_step_21 : decode cX9_step 21 = .ok (.aload_n 0, 1) := by decide +kernel
theorem dX9_step_22 : decode cX9_step 22 = .ok (.aload_n 0, 1) := by decide +kernel
theorem dX9_step_23 : decode cX9_step 23 = .ok (.getfield 104, 3) := by decide +kernel
theorem dX9_step_26 : decode cX9_step 26 = .ok (.invokestatic 107, 3) := by decide +kernel
theorem dX9_step_29 : decode cX9_step 29 = .ok (.putfield 104, 3) := by decide +kernel
theorem dX9_step_32 : decode cX9_step 32 = .ok (.aload_n 0, 1) := by decide +kernel
theorem dX9_step_33 : decode cX9_step 33 = .ok (.aload_n 0, 1) := by decide +kernel
theorem dX9_step_34 : decode cX9_step 34 = .ok (.getfield 91, 3) := by decide +kernel
theorem dX9_step_37 : decode cX9_step 37 = .ok (.invokestatic 107, 3) := by decide +kernel
theorem dX9_step_40 : decode cX9_step 40 = .ok (.putfield 91, 3) := by decide +kernel
theorem dX9_step_43 : decode cX9_step 43 = .ok (.aload_n 0, 1) := by decide +kernel
theorem dX9_step_44 : decode cX9_step 44 = .ok (.aload_n 0, 1) := by decide +kernel
theorem dX9_step_45 : decode cX9_step 45 = .ok (.getfield 79, 3) := by decide +kernel
theorem dX9_step_48 : decode cX9_step 48 = .ok (.ifCond .eq 12, 3) := by decide +kernel
theorem dX9_step_51 : decode cX9_step 51 = .ok (.aload_n 0, 1) := by decide +kernel
theorem dX9_step_52 : decode cX9_step 52 = .ok (.getfield 97, 3) := by decide +kernel
theorem dX9_step_55 : decode cX9_step 55 = .ok (.iconst 1, 1) := by decide +kernel
theorem dX9_step_56 : decode cX9_step 56 = .ok (.iadd, 1) := by decide +kernel
theorem dX9_step_57 : decode cX9_step 57 = .ok (.goto 7, 3) := by decide +kernel
theorem dX9_step_60 : decode cX9_step 60 = .ok (.aload_n 0, 1) := by decide +kernel
theorem dX9_step_61 : decode cX9_step 61 = .ok (.getfield 97, 3) := by decide +kernel
theorem dX9_step_64 : decode cX9_step 64 = .ok (.putfield 97, 3) := by decide +kernel
theorem dX9_step_67 : decode cX9_step 67 = .ok (.bipush 16, 2) := by decide +kernel
theorem dX9_step_69 : decode cX9_step 69 = .ok (.iload_n 3, 1) := by decide +kernel
theorem dX9_step_70 : decode cX9_step 70 = .ok (.imul, 1) := by decide +kernel
theorem dX9_step_71 : decode cX9_step 71 = .ok (.istore 4, 2) := by decide +kernel
theorem dX9_step_73 : decode cX9_step 73 = .ok (.aload_n 0, 1) := by decide +kernel
theorem dX9_step_74 : decode cX9_step 74 = .ok (.iload 4, 2) := by decide +kernel
theorem dX9_step_76 : decode cX9_step 76 = .ok (.aload_n 0, 1) := by decide +kernel
theorem dX9_step_77 : decode cX9_step 77 = .ok (.getfield 85, 3) := by decide +kernel
theorem dX9_step_80 : decode cX9_step 80 = .ok (.if_icmp .le 21, 3) := by decide +kernel
theorem dX9_step_83 : decode cX9_step 83 = .ok (.aload_n 0, 1) := by decide +kernel
theorem dX9_step_84 : decode cX9_step 84 = .ok (.getfield 85, 3) := by decide +kernel
theorem dX9_step_87 : decode cX9_step 87 = .ok (.iload 4, 2) := by decide +kernel
theorem dX9_step_89 : decode cX9_step 89 = .ok (.aload_n 0, 1) := by decide +kernel
theorem dX9_step_90 : decode cX9_step 90 = .ok (.getfield 85, 3) := by decide +kernel
theorem dX9_step_93 : decode cX9_step 93 = .ok (.isub, 1) := by decide +kernel
theorem dX9_step_94 : decode cX9_step 94 = .ok (.bipush 8, 2) := by decide +kernel
theorem dX9_step_96 : decode cX9_step 96 = .ok (.idiv, 1) := by decide +kernel
theorem dX9_step_97 : decode cX9_step 97 = .ok (.iadd, 1) := by decide +kernel
theorem dX9_step_98 : decode cX9_step 98 = .ok (.goto 18, 3) := by decide +kernel
theorem dX9_step_101 : decode cX9_step 101 = .ok (.aload_n 0, 1) := by decide +kernel
theorem dX9_step_102 : decode cX9_step 102 = .ok (.getfield 85, 3) := by decide +kernel
theorem dX9_step_105 : decode cX9_step 105 = .ok (.aload_n 0, 1) := by decide +kernel
theorem dX9_step_106 : decode cX9_step 106 = .ok (.getfield 85, 3) := by decide +kernel
theorem dX9_step_109 : decode cX9_step 109 = .ok (.iload 4, 2) := by decide +kernel
theorem dX9_step_111 : decode cX9_step 111 = .ok (.isub, 1) := by decide +kernel
theorem dX9_step_112 : decode cX9_step 112 = .ok (.bipush 32, 2) := by decide +kernel
theorem dX9_step_114 : decode cX9_step 114 = .ok (.idiv, 1) := by decide +kernel
theorem dX9_step_115 : decode cX9_step 115 = .ok (.isub, 1) := by decide +kernel
theorem dX9_step_116 : decode cX9_step 116 = .ok (.putfield 85, 3) := by decide +kernel
theorem dX9_step_119 : decode cX9_step 119 = .ok (.iload_n 1, 1) := by decide +kernel
theorem dX9_step_120 : decode cX9_step 120 = .ok (.aload_n 0, 1) := by decide +kernel
theorem dX9_step_121 : decode cX9_step 121 = .ok (.getfield 111, 3) := by decide +kernel
theorem dX9_step_124 : decode cX9_step 124 = .ok (.aload_n 0, 1) := by decide +kernel
theorem dX9_step_125 : decode cX9_step 125 = .ok (.getfield 16, 3) := by decide +kernel
theorem dX9_step_128 : decode cX9_step 128 = .ok (.bipush 9, 2) := by decide +kernel
theorem dX9_step_130 : decode cX9_step 130 = .ok (.iaload, 1) := by decide +kernel
theorem dX9_step_131 : decode cX9_step 131 = .ok (.invokestatic 114, 3) := by decide +kernel
theorem dX9_step_134 : decode cX9_step 134 = .ok (.istore 5, 2) := by decide +kernel
theorem dX9_step_136 : decode cX9_step 136 = .ok (.iload_n 2, 1) := by decide +kernel
theorem dX9_step_137 : decode cX9_step 137 = .ok (.aload_n 0, 1) := by decide +kernel
theorem dX9_step_138 : decode cX9_step 138 = .ok (.getfield 118, 3) := by decide +kernel
theorem dX9_step_141 : decode cX9_step 141 = .ok (.aload_n 0, 1) := by decide +kernel
theorem dX9_step_142 : decode cX9_step 142 = .ok (.getfield 16, 3) := by decide +kernel
theorem dX9_step_145 : decode cX9_step 145 = .ok (.bipush 10, 2) := by decide +kernel
theorem dX9_step_147 : decode cX9_step 147 = .ok (.iaload, 1) := by decide +kernel
theorem dX9_step_148 : decode cX9_step 148 = .ok (.invokestatic 114, 3) := by decide +kernel
theorem dX9_step_151 : decode cX9_step 151 = .ok (.istore 6, 2) := by decide +kernel
theorem dX9_step_153 : decode cX9_step 153 = .ok (.aload_n 0, 1) := by decide +kernel
theorem dX9_step_154 : decode cX9_step 154 = .ok (.aload_n 0, 1) := by decide +kernel
theorem dX9_step_155 : decode cX9_step 155 = .ok (.getfield 121, 3) := by decide +kernel
theorem dX9_step_158 : decode cX9_step 158 = .ok (.putfield 111, 3) := by decide +kernel
theorem dX9_step_161 : decode cX9_step 161 = .ok (.aload_n 0, 1) := by decide +kernel
theorem dX9_step_162 : decode cX9_step 162 = .ok (.iload_n 1, 1) := by decide +kernel
theorem dX9_step_163 : decode cX9_step 163 = .ok (.putfield 121, 3) := by decide +kernel
theorem dX9_step_166 : decode cX9_step 166 = .ok (.aload_n 0, 1) := by decide +kernel
theorem dX9_step_167 : decode cX9_step 167 = .ok (.aload_n 0, 1) := by decide +kernel
theorem dX9_step_168 : decode cX9_step 168 = .ok (.getfield 124, 3) := by decide +kernel
theorem dX9_step_171 : decode cX9_step 171 = .ok (.putfield 118, 3) := by decide +kernel
theorem dX9_step_174 : decode cX9_step 174 = .ok (.aload_n 0, 1) := by decide +kernel
theorem dX9_step_175 : decode cX9_step 175 = .ok (.iload_n 2, 1) := by decide +kernel
theorem dX9_step_176 : decode cX9_step 176 = .ok (.putfield 124, 3) := by decide +kernel
theorem dX9_step_179 : decode cX9_step 179 = .ok (.iconst 0, 1) := by decide +kernel
theorem dX9_step_180 : decode cX9_step 180 = .ok (.istore 7, 2) := by decide +kernel
theorem dX9_step_182 : decode cX9_step 182 = .ok (.iload 6, 2) := by decide +kernel
theorem dX9_step_184 : decode cX9_step 184 = .ok (.ifCond .eq 48, 3) := by decide +kernel
theorem dX9_step_187 : decode cX9_step 187 = .ok (.aload_n 0, 1) := by decide +kernel
theorem dX9_step_188 : decode cX9_step 188 = .ok (.sipush 232, 3) := by decide +kernel
theorem dX9_step_191 : decode cX9_step 191 = .ok (.invokevirtual 58, 3) := by decide +kernel
theorem dX9_step_194 : decode cX9_step 194 = .ok (.ifCond .eq 38, 3) := by decide +kernel
theorem dX9_step_197 : decode cX9_step 197 = .ok (.aload_n 0, 1) := by decide +kernel
theorem dX9_step_198 : decode cX9_step 198 = .ok (.getfield 104, 3) := by decide +kernel
theorem dX9_step_201 : decode cX9_step 201 = .ok (.aload_n 0, 1) := by decide +kernel
theorem dX9_step_202 : decode cX9_step 202 = .ok (.getfield 16, 3) := by decide +kernel
theorem dX9_step_205 : decode cX9_step 205 = .ok (.iconst 5, 1) := by decide +kernel
theorem dX9_step_206 : decode cX9_step 206 = .ok (.iaload, 1) := by decide +kernel
theorem dX9_step_207 : decode cX9_step 207 = .ok (.if_icmp .lt 25, 3) := by decide +kernel
theorem dX9_step_210 : decode cX9_step 210 = .ok (.aload_n 0, 1) := by decide +kernel
theorem dX9_step_211 : decode cX9_step 211 = .ok (.getfield 91, 3) := by decide +kernel
theorem dX9_step_214 : decode cX9_step 214 = .ok (.aload_n 0, 1) := by decide +kernel
theorem dX9_step_215 : decode cX9_step 215 = .ok (.getfield 16, 3) := by decide +kernel
theorem dX9_step_218 : decode cX9_step 218 = .ok (.bipush 7, 2) := by decide +kernel
theorem dX9_step_220 : decode cX9_step 220 = .ok (.iaload, 1) := by decide +kernel
theorem dX9_step_221 : decode cX9_step 221 = .ok (.if_icmp .lt 11, 3) := by decide +kernel
theorem dX9_step_224 : decode cX9_step 224 = .ok (.aload_n 0, 1) := by decide +kernel
theorem dX9_step_225 : decode cX9_step 225 = .ok (.iconst 1, 1) := by decide +kernel
theorem dX9_step_226 : decode cX9_step 226 = .ok (.invokevirtual 127, 3) := by decide +kernel
theorem dX9_step_229 : decode cX9_step 229 = .ok (.iconst 2, 1) := by decide +kernel
theorem dX9_step_230 : decode cX9_step 230 = .ok (.istore 7, 2) := by decide +kernel
theorem dX9_step_232 : decode cX9_step 232 = .ok (.iload 5, 2) := by decide +kernel
theorem dX9_step_234 : decode cX9_step 234 = .ok (.ifCond .eq 60, 3) := by decide +kernel
theorem dX9_step_237 : decode cX9_step 237 = .ok (.aload_n 0, 1) := by decide +kernel
theorem dX9_step_238 : decode cX9_step 238 = .ok (.sipush 240, 3) := by decide +kernel
theorem dX9_step_241 : decode cX9_step 241 = .ok (.invokevirtual 58, 3) := by decide +kernel
theorem dX9_step_244 : decode cX9_step 244 = .ok (.ifCond .eq 50, 3) := by decide +kernel
theorem dX9_step_247 : decode cX9_step 247 = .ok (.aload_n 0, 1) := by decide +kernel
theorem dX9_step_248 : decode cX9_step 248 = .ok (.getfield 62, 3) := by decide +kernel
theorem dX9_step_251 : decode cX9_step 251 = .ok (.aload_n 0, 1) := by decide +kernel
theorem dX9_step_252 : decode cX9_step 252 = .ok (.getfield 16, 3) := by decide +kernel
theorem dX9_step_255 : decode cX9_step 255 = .ok (.bipush 6, 2) := by decide +kernel
theorem dX9_step_257 : decode cX9_step 257 = .ok (.iaload, 1) := by decide +kernel
theorem dX9_step_258 : decode cX9_step 258 = .ok (.if_icmp .lt 36, 3) := by decide +kernel
theorem dX9_step_261 : decode cX9_step 261 = .ok (.aload_n 0, 1) := by decide +kernel
theorem dX9_step_262 : decode cX9_step 262 = .ok (.bipush 18, 2) := by decide +kernel
theorem dX9_step_264 : decode cX9_step 264 = .ok (.invokevirtual 58, 3) := by decide +kernel
theorem dX9_step_267 : decode cX9_step 267 = .ok (.ifCond .ne 16, 3) := by decide +kernel
theorem dX9_step_270 : decode cX9_step 270 = .ok (.aload_n 0, 1) := by decide +kernel
theorem dX9_step_271 : decode cX9_step 271 = .ok (.getfield 104, 3) := by decide +kernel
theorem dX9_step_274 : decode cX9_step 274 = .ok (.aload_n 0, 1) := by decide +kernel
theorem dX9_step_275 : decode cX9_step 275 = .ok (.getfield 16, 3) := by decide +kernel
theorem dX9_step_278 : decode cX9_step 278 = .ok (.iconst 4, 1) := by decide +kernel
theorem dX9_step_279 : decode cX9_step 279 = .ok (.iaload, 1) := by decide +kernel
theorem dX9_step_280 : decode cX9_step 280 = .ok (.if_icmp .lt 14, 3) := by decide +kernel
theorem dX9_step_283 : decode cX9_step 283 = .ok (.aload_n 0, 1) := by decide +kernel
theorem dX9_step_284 : decode cX9_step 284 = .ok (.iconst 1, 1) := by decide +kernel
theorem dX9_step_285 : decode cX9_step 285 = .ok (.invokevirtual 130, 3) := by decide +kernel
theorem dX9_step_288 : decode cX9_step 288 = .ok (.iload 7, 2) := by decide +kernel
theorem dX9_step_290 : decode cX9_step 290 = .ok (.iconst 1, 1) := by decide +kernel
theorem dX9_step_291 : decode cX9_step 291 = .ok (.iadd, 1) := by decide +kernel
