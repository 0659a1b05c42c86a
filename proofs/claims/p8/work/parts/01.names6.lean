theorem dX5_goAct_223 : decode cX5_goAct 223 = .ok (.iconst 2, 1) := by decide +kernel
theorem dX5_goAct_224 : decode cX5_goAct 224 = .ok (.goto 9, 3) := by decide +kernel
theorem dX5_goAct_227 : decode cX5_goAct 227 = .ok (.aload_n 0, 1) := by decide +kernel
theorem dX5_goAct_228 : decode cX5_goAct 228 = .ok (.getfield 37, 3) := by decide +kernel
theorem dX5_goAct_231 : decode cX5_goAct 231 = .ok (.iload_n 2, 1) := by decide +kernel
theorem dX5_goAct_232 : decode cX5_goAct 232 = .ok (.iaload, 1) := by decide +kernel
theorem dX5_goAct_233 : decode cX5_goAct 233 = .ok (.if_icmp .ne 16, 3) := by decide +kernel
theorem dX5_goAct_236 : decode cX5_goAct 236 = .ok (.aload_n 0, 1) := by decide +kernel
theorem dX5_goAct_237 : decode cX5_goAct 237 = .ok (.aload_n 0, 1) := by decide +kernel
theorem dX5_goAct_238 : decode cX5_goAct 238 = .ok (.getfield 67, 3) := by decide +kernel
theorem dX5_goAct_241 : decode cX5_goAct 241 = .ok (.iload_n 1, 1) := by decide +kernel
theorem dX5_goAct_242 : decode cX5_goAct 242 = .ok (.iaload, 1) := by decide +kernel
theorem dX5_goAct_243 : decode cX5_goAct 243 = .ok (.invokevirtual 150, 3) := by decide +kernel
theorem dX5_goAct_246 : decode cX5_goAct 246 = .ok (.goto 29, 3) := by decide +kernel
theorem dX5_goAct_249 : decode cX5_goAct 249 = .ok (.aload_n 0, 1) := by decide +kernel
theorem dX5_goAct_250 : decode cX5_goAct 250 = .ok (.iload_n 1, 1) := by decide +kernel
theorem dX5_goAct_251 : decode cX5_goAct 251 = .ok (.iconst 1, 1) := by decide +kernel
theorem dX5_goAct_252 : decode cX5_goAct 252 = .ok (.iload_n 3, 1) := by decide +kernel
theorem dX5_goAct_253 : decode cX5_goAct 253 = .ok (.iconst 3, 1) := by decide +kernel
theorem dX5_goAct_254 : decode cX5_goAct 254 = .ok (.if_icmp .ne 12, 3) := by decide +kernel
theorem dX5_goAct_257 : decode cX5_goAct 257 = .ok (.aload_n 0, 1) := by decide +kernel
theorem dX5_goAct_258 : decode cX5_goAct 258 = .ok (.getfield 37, 3) := by decide +kernel
theorem dX5_goAct_261 : decode cX5_goAct 261 = .ok (.iload_n 2, 1) := by decide +kernel
theorem dX5_goAct_262 : decode cX5_goAct 262 = .ok (.iaload, 1) := by decide +kernel
theorem dX5_goAct_263 : decode cX5_goAct 263 = .ok (.goto 9, 3) := by decide +kernel
theorem dX5_goAct_266 : decode cX5_goAct 266 = .ok (.aload_n 0, 1) := by decide +kernel
theorem dX5_goAct_267 : decode cX5_goAct 267 = .ok (.getfield 34, 3) := by decide +kernel
theorem dX5_goAct_270 : decode cX5_goAct 270 = .ok (.iload_n 2, 1) := by decide +kernel
theorem dX5_goAct_271 : decode cX5_goAct 271 = .ok (.iaload, 1) := by decide +kernel
theorem dX5_goAct_272 : decode cX5_goAct 272 = .ok (.invokevirtual 143, 3) := by decide +kernel
theorem dX5_goAct_275 : decode cX5_goAct 275 = .ok (.return_, 1) := by decide +kernel
set_option maxRecDepth 20000 in
theorem ggX5_begins_X5_fails : GoodIn wsX5_begins wsX5_fails := goodIn_r _ [16, 17, 18, 19, 20, 43, 44, 45, 46, 47, 48, 49, 50, 51, 52, 53, 54, 55, 56, 57, 58, 59, 60, 61, 62, 63, 64, 65, 66, 67, 68, 69, 70, 71, 72, 73, 74, 75, 76, 77, 78] (by decide +kernel) (by decide +kernel)
set_option maxRecDepth 20000 in
theorem gX5_begins_X5_fails : GoodIn wsX5_begins (wsV RX5 154 RX5 yX5_fails wsX5_fails) := goodIn_app (goodIn_of _ (by decide +kernel)) ggX5_begins_X5_fails
set_option maxRecDepth 20000 in
theorem ggX5_begins_X5_ends : GoodIn wsX5_begins wsX5_ends := goodIn_r _ [24, 17, 18, 19, 20, 43, 44, 45, 46, 47, 48, 49, 50, 51, 52, 53, 54, 55, 56, 57, 58, 59, 60, 61, 62, 63, 64, 65, 66, 67, 68, 69, 70, 71, 72, 73, 74, 75, 76, 77, 78] (by decide +kernel) (by decide +kernel)
set_option maxRecDepth 20000 in
theorem gX5_begins_X5_ends : GoodIn wsX5_begins (wsV RX5 150 RX5 yX5_ends wsX5_ends) := goodIn_app (goodIn_of _ (by decide +kernel)) ggX5_begins_X5_ends
set_option maxRecDepth 20000 in
theorem ggX5_begins_X5_goOn : GoodIn wsX5_begins wsX5_goOn := goodIn_r _ [28, 29, 30, 31, 32, 15, 33, 10, 18, 20, 34, 17, 35, 43, 44, 45, 46, 47, 48, 49, 50, 51, 52, 53, 54, 55, 56, 57, 58, 59, 60, 61, 62, 63, 64, 65, 66, 67, 68, 69, 70, 71, 72, 73, 74, 75, 76, 77, 78] (by decide +kernel) (by decide +kernel)
set_option maxRecDepth 20000 in
theorem gX5_begins_X5_goOn : GoodIn wsX5_begins (wsV RX5 143 RX5 yX5_goOn wsX5_goOn) := goodIn_app (goodIn_of _ (by decide +kernel)) ggX5_begins_X5_goOn
set_option maxRecDepth 20000 in
theorem ggX5_begins_X5_waits : GoodIn wsX5_begins wsX5_waits := goodIn_r _ [39, 40, 41, 42, 43, 44, 45, 46, 47, 48, 49, 50, 51, 52, 53, 54, 55, 56, 57, 58, 59, 60, 61, 62, 63, 64, 65, 66, 67, 68, 69, 70, 71, 72, 73, 74, 75, 76, 77, 78] (by decide +kernel) (by decide +kernel)
set_option maxRecDepth 20000 in
theorem gX5_begins_X5_waits : GoodIn wsX5_begins (wsV RX5 163 RX5 yX5_waits wsX5_waits) := goodIn_app (goodIn_of _ (by decide +kernel)) ggX5_begins_X5_waits
theorem dX5_begins_0 : decode cX5_begins 0 = .ok (.aload_n 0, 1) := by decide +kernel
theorem dX5_begins_1 : decode cX5_begins 1 = .ok (.getfield 34, 3) := by decide +kernel
theorem dX5_begins_4 : decode cX5_begins 4 = .ok (.iload_n 2, 1) := by decide +kernel
theorem dX5_begins_5 : decode cX5_begins 5 = .ok (.iaload, 1) := by decide +kernel
theorem dX5_begins_6 : decode cX5_begins 6 = .ok (.istore_n 3, 1) := by decide +kernel
theorem dX5_begins_7 : decode cX5_begins 7 = .ok (.aload_n 0, 1) := by decide +kernel
theorem dX5_begins_8 : decode cX5_begins 8 = .ok (.getfield 37, 3) := by decide +kernel
theorem dX5_begins_11 : decode cX5_begins 11 = .ok (.iload_n 2, 1) := by decide +kernel
theorem dX5_begins_12 : decode cX5_begins 12 = .ok (.iaload, 1) := by decide +kernel
theorem dX5_begins_13 : decode cX5_begins 13 = .ok (.istore 4, 2) := by decide +kernel
theorem dX5_begins_15 : decode cX5_begins 15 = .ok (.aload_n 0, 1) := by decide +kernel
theorem dX5_begins_16 : decode cX5_begins 16 = .ok (.getfield 40, 3) := by decide +kernel
theorem dX5_begins_19 : decode cX5_begins 19 = .ok (.iload_n 2, 1) := by decide +kernel
theorem dX5_begins_20 : decode cX5_begins 20 = .ok (.iaload, 1) := by decide +kernel
theorem dX5_begins_21 : decode cX5_begins 21 = .ok (.istore 5, 2) := by decide +kernel
theorem dX5_begins_23 : decode cX5_begins 23 = .ok (.aload_n 0, 1) := by decide +kernel
theorem dX5_begins_24 : decode cX5_begins 24 = .ok (.getfield 67, 3) := by decide +kernel
theorem dX5_begins_27 : decode cX5_begins 27 = .ok (.iload_n 1, 1) := by decide +kernel
theorem dX5_begins_28 : decode cX5_begins 28 = .ok (.iconst 0, 1) := by decide +kernel
theorem dX5_begins_29 : decode cX5_begins 29 = .ok (.iastore, 1) := by decide +kernel
theorem dX5_begins_30 : decode cX5_begins 30 = .ok (.aload_n 0, 1) := by decide +kernel
theorem dX5_begins_31 : decode cX5_begins 31 = .ok (.getfield 70, 3) := by decide +kernel
theorem dX5_begins_34 : decode cX5_begins 34 = .ok (.iload_n 1, 1) := by decide +kernel
theorem dX5_begins_35 : decode cX5_begins 35 = .ok (.iconst 0, 1) := by decide +kernel
theorem dX5_begins_36 : decode cX5_begins 36 = .ok (.iastore, 1) := by decide +kernel
theorem dX5_begins_37 : decode cX5_begins 37 = .ok (.aload_n 0, 1) := by decide +kernel
theorem dX5_begins_38 : decode cX5_begins 38 = .ok (.getfield 31, 3) := by decide +kernel
theorem dX5_begins_41 : decode cX5_begins 41 = .ok (.iload_n 2, 1) := by decide +kernel
theorem dX5_begins_42 : decode cX5_begins 42 = .ok (.iaload, 1) := by decide +kernel
theorem dX5_begins_43 : decode cX5_begins 43 = .ok (.tableswitch 331 0 8 #[49, 88, 139, 331, 149, 172, 192, 237, 304], 49) := by decide +kernel
theorem dX5_begins_92 : decode cX5_begins 92 = .ok (.aload_n 0, 1) := by decide +kernel
theorem dX5_begins_93 : decode cX5_begins 93 = .ok (.getfield 13, 3) := by decide +kernel
theorem dX5_begins_96 : decode cX5_begins 96 = .ok (.iload_n 3, 1) := by decide +kernel
theorem dX5_begins_97 : decode cX5_begins 97 = .ok (.iaload, 1) := by decide +kernel
theorem dX5_begins_98 : decode cX5_begins 98 = .ok (.iload 4, 2) := by decide +kernel
theorem dX5_begins_100 : decode cX5_begins 100 = .ok (.if_icmp .ge 11, 3) := by decide +kernel
theorem dX5_begins_103 : decode cX5_begins 103 = .ok (.aload_n 0, 1) := by decide +kernel
theorem dX5_begins_104 : decode cX5_begins 104 = .ok (.iconst 3, 1) := by decide +kernel
theorem dX5_begins_105 : decode cX5_begins 105 = .ok (.invokevirtual 154, 3) := by decide +kernel
theorem dX5_begins_108 : decode cX5_begins 108 = .ok (.goto 273, 3) := by decide +kernel
theorem dX5_begins_111 : decode cX5_begins 111 = .ok (.aload_n 0, 1) := by decide +kernel
theorem dX5_begins_112 : decode cX5_begins 112 = .ok (.getfield 13, 3) := by decide +kernel
theorem dX5_begins_115 : decode cX5_begins 115 = .ok (.iload_n 3, 1) := by decide +kernel
theorem dX5_begins_116 : decode cX5_begins 116 = .ok (.dup2, 1) := by decide +kernel
theorem dX5_begins_117 : decode cX5_begins 117 = .ok (.iaload, 1) := by decide +kernel
theorem dX5_begins_118 : decode cX5_begins 118 = .ok (.iload 4, 2) := by decide +kernel
theorem dX5_begins_120 : decode cX5_begins 120 = .ok (.isub, 1) := by decide +kernel
theorem dX5_begins_121 : decode cX5_begins 121 = .ok (.iastore, 1) := by decide +kernel
theorem dX5_begins_122 : decode cX5_begins 122 = .ok (.aload_n 0, 1) := by decide +kernel
theorem dX5_begins_123 : decode cX5_begins 123 = .ok (.iload 4, 2) := by decide +kernel
theorem dX5_begins_125 : decode cX5_begins 125 = .ok (.invokevirtual 150, 3) := by decide +kernel
theorem dX5_begins_128 : decode cX5_begins 128 = .ok (.goto 253, 3) := by decide +kernel
theorem dX5_begins_131 : decode cX5_begins 131 = .ok (.aload_n 0, 1) := by decide +kernel
theorem dX5_begins_132 : decode cX5_begins 132 = .ok (.getfield 13, 3) := by decide +kernel
theorem dX5_begins_135 : decode cX5_begins 135 = .ok (.iload_n 3, 1) := by decide +kernel
theorem dX5_begins_136 : decode cX5_begins 136 = .ok (.iaload, 1) := by decide +kernel
theorem dX5_begins_137 : decode cX5_begins 137 = .ok (.iload 5, 2) := by decide +kernel
theorem dX5_begins_139 : decode cX5_begins 139 = .ok (.if_icmp .ge 11, 3) := by decide +kernel
theorem dX5_begins_142 : decode cX5_begins 142 = .ok (.aload_n 0, 1) := by decide +kernel
theorem dX5_begins_143 : decode cX5_begins 143 = .ok (.iconst 3, 1) := by decide +kernel
theorem dX5_begins_144 : decode cX5_begins 144 = .ok (.invokevirtual 154, 3) := by decide +kernel
theorem dX5_begins_147 : decode cX5_begins 147 = .ok (.goto 234, 3) := by decide +kernel
theorem dX5_begins_150 : decode cX5_begins 150 = .ok (.aload_n 0, 1) := by decide +kernel
theorem dX5_begins_151 : decode cX5_begins 151 = .ok (.getfield 13, 3) := by decide +kernel
theorem dX5_begins_154 : decode cX5_begins 154 = .ok (.iload_n 3, 1) := by decide +kernel
theorem dX5_begins_155 : decode cX5_begins 155 = .ok (.dup2, 1) := by decide +kernel
theorem dX5_begins_156 : decode cX5_begins 156 = .ok (.iaload, 1) := by decide +kernel
theorem dX5_begins_157 : decode cX5_begins 157 = .ok (.iload 5, 2) := by decide +kernel
theorem dX5_begins_159 : decode cX5_begins 159 = .ok (.isub, 1) := by decide +kernel
theorem dX5_begins_160 : decode cX5_begins 160 = .ok (.iastore, 1) := by decide +kernel
theorem dX5_begins_161 : decode cX5_begins 161 = .ok (.aload_n 0, 1) := by decide +kernel
theorem dX5_begins_162 : decode cX5_begins 162 = .ok (.getfield 13, 3) := by decide +kernel
theorem dX5_begins_165 : decode cX5_begins 165 = .ok (.iload 4, 2) := by decide +kernel
theorem dX5_begins_167 : decode cX5_begins 167 = .ok (.dup2, 1) := by decide +kernel
theorem dX5_begins_168 : decode cX5_begins 168 = .ok (.iaload, 1) := by decide +kernel
theorem dX5_begins_169 : decode cX5_begins 169 = .ok (.iload 5, 2) := by decide +kernel
theorem dX5_begins_171 : decode cX5_begins 171 = .ok (.iadd, 1) := by decide +kernel
theorem dX5_begins_172 : decode cX5_begins 172 = .ok (.iastore, 1) := by decide +kernel
theorem dX5_begins_173 : decode cX5_begins 173 = .ok (.aload_n 0, 1) := by decide +kernel
theorem dX5_begins_174 : decode cX5_begins 174 = .ok (.iload 5, 2) := by decide +kernel
theorem dX5_begins_176 : decode cX5_begins 176 = .ok (.invokevirtual 150, 3) := by decide +kernel
theorem dX5_begins_179 : decode cX5_begins 179 = .ok (.goto 202, 3) := by decide +kernel
theorem dX5_begins_182 : decode cX5_begins 182 = .ok (.aload_n 0, 1) := by decide +kernel
theorem dX5_begins_183 : decode cX5_begins 183 = .ok (.iload_n 1, 1) := by decide +kernel
theorem dX5_begins_184 : decode cX5_begins 184 = .ok (.iconst 0, 1) := by decide +kernel
theorem dX5_begins_185 : decode cX5_begins 185 = .ok (.iload_n 3, 1) := by decide +kernel
theorem dX5_begins_186 : decode cX5_begins 186 = .ok (.invokevirtual 143, 3) := by decide +kernel
theorem dX5_begins_189 : decode cX5_begins 189 = .ok (.goto 192, 3) := by decide +kernel
theorem dX5_begins_192 : decode cX5_begins 192 = .ok (.iload 4, 2) := by decide +kernel
theorem dX5_begins_194 : decode cX5_begins 194 = .ok (.ifCond .ne 11, 3) := by decide +kernel
theorem dX5_begins_197 : decode cX5_begins 197 = .ok (.aload_n 0, 1) := by decide +kernel
theorem dX5_begins_198 : decode cX5_begins 198 = .ok (.iconst 0, 1) := by decide +kernel
theorem dX5_begins_199 : decode cX5_begins 199 = .ok (.invokevirtual 150, 3) := by decide +kernel
theorem dX5_begins_202 : decode cX5_begins 202 = .ok (.goto 179, 3) := by decide +kernel
theorem dX5_begins_205 : decode cX5_begins 205 = .ok (.aload_n 0, 1) := by decide +kernel
theorem dX5_begins_206 : decode cX5_begins 206 = .ok (.iload_n 1, 1) := by decide +kernel
theorem dX5_begins_207 : decode cX5_begins 207 = .ok (.iconst 1, 1) := by decide +kernel
theorem dX5_begins_208 : decode cX5_begins 208 = .ok (.iload_n 3, 1) := by decide +kernel
theorem dX5_begins_209 : decode cX5_begins 209 = .ok (.invokevirtual 143, 3) := by decide +kernel
theorem dX5_begins_212 : decode cX5_begins 212 = .ok (.goto 169, 3) := by decide +kernel
theorem dX5_begins_215 : decode cX5_begins 215 = .ok (.aload_n 0, 1) := by decide +kernel
theorem dX5_begins_216 : decode cX5_begins 216 = .ok (.iload_n 3, 1) := by decide +kernel
theorem dX5_begins_217 : decode cX5_begins 217 = .ok (.aload_n 0, 1) := by decide +kernel
theorem dX5_begins_218 : decode cX5_begins 218 = .ok (.getfield 160, 3) := by decide +kernel
theorem dX5_begins_221 : decode cX5_begins 221 = .ok (.iload 4, 2) := by decide +kernel
theorem dX5_begins_223 : decode cX5_begins 223 = .ok (.iadd, 1) := by decide +kernel
theorem dX5_begins_224 : decode cX5_begins 224 = .ok (.invokevirtual 163, 3) := by decide +kernel
theorem dX5_begins_227 : decode cX5_begins 227 = .ok (.aload_n 0, 1) := by decide +kernel
theorem dX5_begins_228 : decode cX5_begins 228 = .ok (.iconst 0, 1) := by decide +kernel
theorem dX5_begins_229 : decode cX5_begins 229 = .ok (.invokevirtual 150, 3) := by decide +kernel
theorem dX5_begins_232 : decode cX5_begins 232 = .ok (.goto 149, 3) := by decide +kernel
theorem dX5_begins_235 : decode cX5_begins 235 = .ok (.iconst 0, 1) := by decide +kernel
theorem dX5_begins_236 : decode cX5_begins 236 = .ok (.istore 6, 2) := by decide +kernel
theorem dX5_begins_238 : decode cX5_begins 238 = .ok (.iload 6, 2) := by decide +kernel
theorem dX5_begins_240 : decode cX5_begins 240 = .ok (.bipush 6, 2) := by decide +kernel
theorem dX5_begins_242 : decode cX5_begins 242 = .ok (.if_icmp .ge 28, 3) := by decide +kernel
theorem dX5_begins_245 : decode cX5_begins 245 = .ok (.aload_n 0, 1) := by decide +kernel
theorem dX5_begins_246 : decode cX5_begins 246 = .ok (.getfield 73, 3) := by decide +kernel
theorem dX5_begins_249 : decode cX5_begins 249 = .ok (.bipush 6, 2) := by decide +kernel
theorem dX5_begins_251 : decode cX5_begins 251 = .ok (.iload_n 1, 1) := by decide +kernel
theorem dX5_begins_252 : decode cX5_begins 252 = .ok (.imul, 1) := by decide +kernel
theorem dX5_begins_253 : decode cX5_begins 253 = .ok (.iload 6, 2) := by decide +kernel
theorem dX5_begins_255 : decode cX5_begins 255 = .ok (.iadd, 1) := by decide +kernel
theorem dX5_begins_256 : decode cX5_begins 256 = .ok (.aload_n 0, 1) := by decide +kernel
theorem dX5_begins_257 : decode cX5_begins 257 = .ok (.getfield 13, 3) := by decide +kernel
theorem dX5_begins_260 : decode cX5_begins 260 = .ok (.iload 6, 2) := by decide +kernel
theorem dX5_begins_262 : decode cX5_begins 262 = .ok (.iaload, 1) := by decide +kernel
theorem dX5_begins_263 : decode cX5_begins 263 = .ok (.iastore, 1) := by decide +kernel
theorem dX5_begins_264 : decode cX5_begins 264 = .ok (.iinc 6 1, 3) := by decide +kernel
theorem dX5_begins_267 : decode cX5_begins 267 = .ok (.goto (-29), 3) := by decide +kernel
theorem dX5_begins_270 : decode cX5_begins 270 = .ok (.aload_n 0, 1) := by decide +kernel
theorem dX5_begins_271 : decode cX5_begins 271 = .ok (.iload_n 1, 1) := by decide +kernel
theorem dX5_begins_272 : decode cX5_begins 272 = .ok (.iconst 1, 1) := by decide +kernel
theorem dX5_begins_273 : decode cX5_begins 273 = .ok (.iload_n 3, 1) := by decide +kernel
theorem dX5_begins_274 : decode cX5_begins 274 = .ok (.invokevirtual 143, 3) := by decide +kernel
theorem dX5_begins_277 : decode cX5_begins 277 = .ok (.goto 104, 3) := by decide +kernel
theorem dX5_begins_280 : decode cX5_begins 280 = .ok (.iload_n 3, 1) := by decide +kernel
theorem dX5_begins_281 : decode cX5_begins 281 = .ok (.ifCond .ge 56, 3) := by decide +kernel
theorem dX5_begins_284 : decode cX5_begins 284 = .ok (.aload_n 0, 1) := by decide +kernel
theorem dX5_begins_285 : decode cX5_begins 285 = .ok (.getfield 111, 3) := by decide +kernel
theorem dX5_begins_288 : decode cX5_begins 288 = .ok (.sipush 300, 3) := by decide +kernel
theorem dX5_begins_291 : decode cX5_begins 291 = .ok (.if_icmp .ne 7, 3) := by decide +kernel
theorem dX5_begins_294 : decode cX5_begins 294 = .ok (.iconst 1, 1) := by decide +kernel
theorem dX5_begins_295 : decode cX5_begins 295 = .ok (.goto 4, 3) := by decide +kernel
theorem dX5_begins_298 : decode cX5_begins 298 = .ok (.iconst 0, 1) := by decide +kernel
theorem dX5_begins_299 : decode cX5_begins 299 = .ok (.istore 6, 2) := by decide +kernel
theorem dX5_begins_301 : decode cX5_begins 301 = .ok (.aload_n 0, 1) := by decide +kernel
theorem dX5_begins_302 : decode cX5_begins 302 = .ok (.dup, 1) := by decide +kernel
theorem dX5_begins_303 : decode cX5_begins 303 = .ok (.getfield 111, 3) := by decide +kernel
theorem dX5_begins_306 : decode cX5_begins 306 = .ok (.iload 6, 2) := by decide +kernel
theorem dX5_begins_308 : decode cX5_begins 308 = .ok (.ifCond .eq 7, 3) := by decide +kernel
theorem dX5_begins_311 : decode cX5_begins 311 = .ok (.iconst 0, 1) := by decide +kernel
theorem dX5_begins_312 : decode cX5_begins 312 = .ok (.goto 4, 3) := by decide +kernel
theorem dX5_begins_315 : decode cX5_begins 315 = .ok (.iconst 1, 1) := by decide +kernel
theorem dX5_begins_316 : decode cX5_begins 316 = .ok (.iadd, 1) := by decide +kernel
theorem dX5_begins_317 : decode cX5_begins 317 = .ok (.putfield 111, 3) := by decide +kernel
theorem dX5_begins_320 : decode cX5_begins 320 = .ok (.aload_n 0, 1) := by decide +kernel
theorem dX5_begins_321 : decode cX5_begins 321 = .ok (.iload 6, 2) := by decide +kernel
theorem dX5_begins_323 : decode cX5_begins 323 = .ok (.ifCond .eq 7, 3) := by decide +kernel
theorem dX5_begins_326 : decode cX5_begins 326 = .ok (.iconst 5, 1) := by decide +kernel
theorem dX5_begins_327 : decode cX5_begins 327 = .ok (.goto 4, 3) := by decide +kernel
theorem dX5_begins_330 : decode cX5_begins 330 = .ok (.iconst 4, 1) := by decide +kernel
theorem dX5_begins_331 : decode cX5_begins 331 = .ok (.invokevirtual 154, 3) := by decide +kernel
theorem dX5_begins_334 : decode cX5_begins 334 = .ok (.goto 47, 3) := by decide +kernel
theorem dX5_begins_337 : decode cX5_begins 337 = .ok (.aload_n 0, 1) := by decide +kernel
theorem dX5_begins_338 : decode cX5_begins 338 = .ok (.iload_n 1, 1) := by decide +kernel
theorem dX5_begins_339 : decode cX5_begins 339 = .ok (.iconst 1, 1) := by decide +kernel
theorem dX5_begins_340 : decode cX5_begins 340 = .ok (.iload_n 3, 1) := by decide +kernel
theorem dX5_begins_341 : decode cX5_begins 341 = .ok (.invokevirtual 143, 3) := by decide +kernel
theorem dX5_begins_344 : decode cX5_begins 344 = .ok (.goto 37, 3) := by decide +kernel
theorem dX5_begins_347 : decode cX5_begins 347 = .ok (.aload_n 0, 1) := by decide +kernel
theorem dX5_begins_348 : decode cX5_begins 348 = .ok (.getfield 7, 3) := by decide +kernel
theorem dX5_begins_351 : decode cX5_begins 351 = .ok (.iload_n 3, 1) := by decide +kernel
theorem dX5_begins_352 : decode cX5_begins 352 = .ok (.aload_n 0, 1) := by decide +kernel
theorem dX5_begins_353 : decode cX5_begins 353 = .ok (.getfield 13, 3) := by decide +kernel
theorem dX5_begins_356 : decode cX5_begins 356 = .ok (.iload 4, 2) := by decide +kernel
theorem dX5_begins_358 : decode cX5_begins 358 = .ok (.iaload, 1) := by decide +kernel
theorem dX5_begins_359 : decode cX5_begins 359 = .ok (.iastore, 1) := by decide +kernel
theorem dX5_begins_360 : decode cX5_begins 360 = .ok (.aload_n 0, 1) := by decide +kernel
theorem dX5_begins_361 : decode cX5_begins 361 = .ok (.aload_n 0, 1) := by decide +kernel
theorem dX5_begins_362 : decode cX5_begins 362 = .ok (.getfield 13, 3) := by decide +kernel
theorem dX5_begins_365 : decode cX5_begins 365 = .ok (.iload 4, 2) := by decide +kernel
theorem dX5_begins_367 : decode cX5_begins 367 = .ok (.iaload, 1) := by decide +kernel
theorem dX5_begins_368 : decode cX5_begins 368 = .ok (.invokevirtual 150, 3) := by decide +kernel
theorem dX5_begins_371 : decode cX5_begins 371 = .ok (.goto 10, 3) := by decide +kernel
theorem dX5_begins_374 : decode cX5_begins 374 = .ok (.aload_n 0, 1) := by decide +kernel
theorem dX5_begins_375 : decode cX5_begins 375 = .ok (.iload_n 1, 1) := by decide +kernel
theorem dX5_begins_376 : decode cX5_begins 376 = .ok (.iconst 1, 1) := by decide +kernel
theorem dX5_begins_377 : decode cX5_begins 377 = .ok (.iload_n 3, 1) := by decide +kernel
theorem dX5_begins_378 : decode cX5_begins 378 = .ok (.invokevirtual 143, 3) := by decide +kernel
theorem dX5_begins_381 : decode cX5_begins 381 = .ok (.return_, 1) := by decide +kernel
theorem dX5_waits_0 : decode cX5_waits 0 = .ok (.aload_n 0, 1) := by decide +kernel
theorem dX5_waits_1 : decode cX5_waits 1 = .ok (.getfield 166, 3) := by decide +kernel
theorem dX5_waits_4 : decode cX5_waits 4 = .ok (.bipush 60, 2) := by decide +kernel
theorem dX5_waits_6 : decode cX5_waits 6 = .ok (.if_icmp .ge 33, 3) := by decide +kernel
theorem dX5_waits_9 : decode cX5_waits 9 = .ok (.aload_n 0, 1) := by decide +kernel
theorem dX5_waits_10 : decode cX5_waits 10 = .ok (.getfield 43, 3) := by decide +kernel
theorem dX5_waits_13 : decode cX5_waits 13 = .ok (.aload_n 0, 1) := by decide +kernel
theorem dX5_waits_14 : decode cX5_waits 14 = .ok (.getfield 166, 3) := by decide +kernel
theorem dX5_waits_17 : decode cX5_waits 17 = .ok (.iload_n 1, 1) := by decide +kernel
theorem dX5_waits_18 : decode cX5_waits 18 = .ok (.iastore, 1) := by decide +kernel
theorem dX5_waits_19 : decode cX5_waits 19 = .ok (.aload_n 0, 1) := by decide +kernel
theorem dX5_waits_20 : decode cX5_waits 20 = .ok (.getfield 46, 3) := by decide +kernel
theorem dX5_waits_23 : decode cX5_waits 23 = .ok (.aload_n 0, 1) := by decide +kernel
theorem dX5_waits_24 : decode cX5_waits 24 = .ok (.getfield 166, 3) := by decide +kernel
theorem dX5_waits_27 : decode cX5_waits 27 = .ok (.iload_n 2, 1) := by decide +kernel
theorem dX5_waits_28 : decode cX5_waits 28 = .ok (.iastore, 1) := by decide +kernel
theorem dX5_waits_29 : decode cX5_waits 29 = .ok (.aload_n 0, 1) := by decide +kernel
theorem dX5_waits_30 : decode cX5_waits 30 = .ok (.dup, 1) := by decide +kernel
theorem dX5_waits_31 : decode cX5_waits 31 = .ok (.getfield 166, 3) := by decide +kernel
theorem dX5_waits_34 : decode cX5_waits 34 = .ok (.iconst 1, 1) := by decide +kernel
theorem dX5_waits_35 : decode cX5_waits 35 = .ok (.iadd, 1) := by decide +kernel
theorem dX5_waits_36 : decode cX5_waits 36 = .ok (.putfield 166, 3) := by decide +kernel
theorem dX5_waits_39 : decode cX5_waits 39 = .ok (.return_, 1) := by decide +kernel
set_option maxRecDepth 20000 in
theorem ggX5_ask_X5_isRule : GoodIn wsX5_ask wsX5_isRule := goodIn_r _ [10, 11, 12, 13, 9, 14, 85, 86, 87, 88, 89, 90, 91, 92, 93, 94, 95, 96, 97, 98, 99, 100, 101, 102, 103, 104, 105, 106, 107, 108, 109, 110, 111, 112, 113, 114, 115, 116, 117, 118, 119, 120] (by decide +kernel) (by decide +kernel)
set_option maxRecDepth 20000 in
theorem gX5_ask_X5_isRule : GoodIn wsX5_ask (wsV RX5 98 RX5 yX5_isRule wsX5_isRule) := goodIn_app (goodIn_of _ (by decide +kernel)) ggX5_ask_X5_isRule
set_option maxRecDepth 20000 in
theorem ggX5_ask_X5_go : GoodIn wsX5_ask wsX5_go := goodIn_r _ [18, 19, 2, 20, 21, 1, 22, 23, 24, 9, 25, 26, 4, 27, 28, 29, 30, 31, 32, 33, 34, 5, 35, 36, 37, 38, 39, 40, 41, 42, 43, 44, 45, 46, 47, 48, 49, 50, 51, 52, 12, 13, 14, 53, 54, 55, 56, 57, 58, 59, 60, 61, 62, 63, 64, 65, 66, 67, 68, 69, 70, 71, 72, 73, 74, 75, 76, 77, 78, 79, 80, 81, 82, 83, 84, 85, 86, 87, 88, 89, 90, 91, 92, 93, 94, 95, 96, 97, 98, 99, 100, 101, 102, 103, 104, 105, 106, 107, 108, 109, 110, 111, 112, 113, 114, 115, 116, 117, 118, 119, 120] rfl (by decide +kernel)
set_option maxRecDepth 20000 in
theorem gX5_ask_X5_go : GoodIn wsX5_ask (wsV RX5 169 RX5 yX5_go wsX5_go) := goodIn_app (goodIn_of _ (by decide +kernel)) ggX5_ask_X5_go
theorem dX5_ask_0 : decode cX5_ask 0 = .ok (.aload_n 0, 1) := by decide +kernel
theorem dX5_ask_1 : decode cX5_ask 1 = .ok (.iload_n 1, 1) := by decide +kernel
theorem dX5_ask_2 : decode cX5_ask 2 = .ok (.invokevirtual 98, 3) := by decide +kernel
theorem dX5_ask_5 : decode cX5_ask 5 = .ok (.ifCond .ne 6, 3) := by decide +kernel
theorem dX5_ask_8 : decode cX5_ask 8 = .ok (.bipush (-2), 2) := by decide +kernel
theorem dX5_ask_10 : decode cX5_ask 10 = .ok (.ireturn, 1) := by decide +kernel
theorem dX5_ask_11 : decode cX5_ask 11 = .ok (.aload_n 0, 1) := by decide +kernel
theorem dX5_ask_12 : decode cX5_ask 12 = .ok (.getfield 137, 3) := by decide +kernel
theorem dX5_ask_15 : decode cX5_ask 15 = .ok (.sipush 20000, 3) := by decide +kernel
theorem dX5_ask_18 : decode cX5_ask 18 = .ok (.if_icmp .lt 6, 3) := by decide +kernel
theorem dX5_ask_21 : decode cX5_ask 21 = .ok (.bipush (-4), 2) := by decide +kernel
theorem dX5_ask_23 : decode cX5_ask 23 = .ok (.ireturn, 1) := by decide +kernel
theorem dX5_ask_24 : decode cX5_ask 24 = .ok (.aload_n 0, 1) := by decide +kernel
theorem dX5_ask_25 : decode cX5_ask 25 = .ok (.iconst 0, 1) := by decide +kernel
theorem dX5_ask_26 : decode cX5_ask 26 = .ok (.iload_n 1, 1) := by decide +kernel
theorem dX5_ask_27 : decode cX5_ask 27 = .ok (.invokevirtual 169, 3) := by decide +kernel
theorem dX5_ask_30 : decode cX5_ask 30 = .ok (.aload_n 0, 1) := by decide +kernel
theorem dX5_ask_31 : decode cX5_ask 31 = .ok (.aload_n 0, 1) := by decide +kernel
theorem dX5_ask_32 : decode cX5_ask 32 = .ok (.getfield 111, 3) := by decide +kernel
theorem dX5_ask_35 : decode cX5_ask 35 = .ok (.putfield 172, 3) := by decide +kernel
theorem dX5_ask_38 : decode cX5_ask 38 = .ok (.aload_n 0, 1) := by decide +kernel
theorem dX5_ask_39 : decode cX5_ask 39 = .ok (.getfield 118, 3) := by decide +kernel
theorem dX5_ask_42 : decode cX5_ask 42 = .ok (.ifCond .eq 13, 3) := by decide +kernel
theorem dX5_ask_45 : decode cX5_ask 45 = .ok (.bipush (-10), 2) := by decide +kernel
theorem dX5_ask_47 : decode cX5_ask 47 = .ok (.aload_n 0, 1) := by decide +kernel
theorem dX5_ask_48 : decode cX5_ask 48 = .ok (.getfield 118, 3) := by decide +kernel
theorem dX5_ask_51 : decode cX5_ask 51 = .ok (.isub, 1) := by decide +kernel
theorem dX5_ask_52 : decode cX5_ask 52 = .ok (.goto 7, 3) := by decide +kernel
theorem dX5_ask_55 : decode cX5_ask 55 = .ok (.aload_n 0, 1) := by decide +kernel
theorem dX5_ask_56 : decode cX5_ask 56 = .ok (.getfield 124, 3) := by decide +kernel
theorem dX5_ask_59 : decode cX5_ask 59 = .ok (.ireturn, 1) := by decide +kernel
set_option maxRecDepth 20000 in
theorem ggX5_run_X5_isAct : GoodIn wsX5_run wsX5_isAct := goodIn_r _ [11, 12, 13, 14, 10, 15, 86, 87, 88, 89, 90, 91, 92, 93, 94, 95, 96, 97, 98, 99, 100, 101, 102, 103, 104, 105, 106, 107, 108, 109, 110, 111, 112, 113, 114, 115, 116, 117, 118, 119, 120, 121] (by decide +kernel) (by decide +kernel)
set_option maxRecDepth 20000 in
theorem gX5_run_X5_isAct : GoodIn wsX5_run (wsV RX5 101 RX5 yX5_isAct wsX5_isAct) := goodIn_app (goodIn_of _ (by decide +kernel)) ggX5_run_X5_isAct
set_option maxRecDepth 20000 in
theorem ggX5_run_X5_go : GoodIn wsX5_run wsX5_go := goodIn_r _ [19, 20, 2, 21, 22, 1, 23, 24, 25, 10, 26, 27, 4, 28, 29, 30, 31, 32, 33, 34, 35, 5, 36, 37, 38, 39, 40, 41, 42, 43, 44, 45, 46, 47, 48, 49, 50, 51, 52, 53, 13, 14, 15, 54, 55, 56, 57, 58, 59, 60, 61, 62, 63, 64, 65, 66, 67, 68, 69, 70, 71, 72, 73, 74, 75, 76, 77, 78, 79, 80, 81, 82, 83, 84, 85, 86, 87, 88, 89, 90, 91, 92, 93, 94, 95, 96, 97, 98, 99, 100, 101, 102, 103, 104, 105, 106, 107, 108, 109, 110, 111, 112, 113, 114, 115, 116, 117, 118, 119, 120, 121] rfl (by decide +kernel)
set_option maxRecDepth 20000 in
theorem gX5_run_X5_go : GoodIn wsX5_run (wsV RX5 169 RX5 yX5_go wsX5_go) := goodIn_app (goodIn_of _ (by decide +kernel)) ggX5_run_X5_go
theorem dX5_run_0 : decode cX5_run 0 = .ok (.aload_n 0, 1) := by decide +kernel
theorem dX5_run_1 : decode cX5_run 1 = .ok (.iload_n 1, 1) := by decide +kernel
theorem dX5_run_2 : decode cX5_run 2 = .ok (.invokevirtual 101, 3) := by decide +kernel
theorem dX5_run_5 : decode cX5_run 5 = .ok (.ifCond .ne 6, 3) := by decide +kernel
theorem dX5_run_8 : decode cX5_run 8 = .ok (.bipush (-2), 2) := by decide +kernel
theorem dX5_run_10 : decode cX5_run 10 = .ok (.ireturn, 1) := by decide +kernel
theorem dX5_run_11 : decode cX5_run 11 = .ok (.aload_n 0, 1) := by decide +kernel
theorem dX5_run_12 : decode cX5_run 12 = .ok (.getfield 137, 3) := by decide +kernel
theorem dX5_run_15 : decode cX5_run 15 = .ok (.sipush 20000, 3) := by decide +kernel
theorem dX5_run_18 : decode cX5_run 18 = .ok (.if_icmp .lt 6, 3) := by decide +kernel
theorem dX5_run_21 : decode cX5_run 21 = .ok (.bipush (-4), 2) := by decide +kernel
theorem dX5_run_23 : decode cX5_run 23 = .ok (.ireturn, 1) := by decide +kernel
theorem dX5_run_24 : decode cX5_run 24 = .ok (.aload_n 0, 1) := by decide +kernel
theorem dX5_run_25 : decode cX5_run 25 = .ok (.iconst 1, 1) := by decide +kernel
theorem dX5_run_26 : decode cX5_run 26 = .ok (.iload_n 1, 1) := by decide +kernel
theorem dX5_run_27 : decode cX5_run 27 = .ok (.invokevirtual 169, 3) := by decide +kernel
theorem dX5_run_30 : decode cX5_run 30 = .ok (.aload_n 0, 1) := by decide +kernel
theorem dX5_run_31 : decode cX5_run 31 = .ok (.aload_n 0, 1) := by decide +kernel
theorem dX5_run_32 : decode cX5_run 32 = .ok (.getfield 111, 3) := by decide +kernel
theorem dX5_run_35 : decode cX5_run 35 = .ok (.putfield 172, 3) := by decide +kernel
theorem dX5_run_38 : decode cX5_run 38 = .ok (.aload_n 0, 1) := by decide +kernel
theorem dX5_run_39 : decode cX5_run 39 = .ok (.aload_n 0, 1) := by decide +kernel
theorem dX5_run_40 : decode cX5_run 40 = .ok (.getfield 118, 3) := by decide +kernel
theorem dX5_run_43 : decode cX5_run 43 = .ok (.ifCond .eq 7, 3) := by decide +kernel
theorem dX5_run_46 : decode cX5_run 46 = .ok (.iconst 0, 1) := by decide +kernel
theorem dX5_run_47 : decode cX5_run 47 = .ok (.goto 7, 3) := by decide +kernel
theorem dX5_run_50 : decode cX5_run 50 = .ok (.aload_n 0, 1) := by decide +kernel
theorem dX5_run_51 : decode cX5_run 51 = .ok (.getfield 124, 3) := by decide +kernel
theorem dX5_run_54 : decode cX5_run 54 = .ok (.putfield 175, 3) := by decide +kernel
theorem dX5_run_57 : decode cX5_run 57 = .ok (.aload_n 0, 1) := by decide +kernel
theorem dX5_run_58 : decode cX5_run 58 = .ok (.getfield 118, 3) := by decide +kernel
theorem dX5_run_61 : decode cX5_run 61 = .ok (.ifCond .eq 13, 3) := by decide +kernel
theorem dX5_run_64 : decode cX5_run 64 = .ok (.bipush (-10), 2) := by decide +kernel
theorem dX5_run_66 : decode cX5_run 66 = .ok (.aload_n 0, 1) := by decide +kernel
theorem dX5_run_67 : decode cX5_run 67 = .ok (.getfield 118, 3) := by decide +kernel
theorem dX5_run_70 : decode cX5_run 70 = .ok (.isub, 1) := by decide +kernel
theorem dX5_run_71 : decode cX5_run 71 = .ok (.goto 4, 3) := by decide +kernel
theorem dX5_run_74 : decode cX5_run 74 = .ok (.iconst 1, 1) := by decide +kernel
theorem dX5_run_75 : decode cX5_run 75 = .ok (.ireturn, 1) := by decide +kernel
theorem dX5_amount_0 : decode cX5_amount 0 = .ok (.aload_n 0, 1) := by decide +kernel
theorem dX5_amount_1 : decode cX5_amount 1 = .ok (.getfield 175, 3) := by decide +kernel
theorem dX5_amount_4 : decode cX5_amount 4 = .ok (.ireturn, 1) := by decide +kernel
theorem dX5_due_0 : decode cX5_due 0 = .ok (.iconst (-1), 1) := by decide +kernel
theorem dX5_due_1 : decode cX5_due 1 = .ok (.istore_n 1, 1) := by decide +kernel
theorem dX5_due_2 : decode cX5_due 2 = .ok (.aload_n 0, 1) := by decide +kernel
theorem dX5_due_3 : decode cX5_due 3 = .ok (.getfield 166, 3) := by decide +kernel
theorem dX5_due_6 : decode cX5_due 6 = .ok (.iconst 1, 1) := by decide +kernel
theorem dX5_due_7 : decode cX5_due 7 = .ok (.isub, 1) := by decide +kernel
theorem dX5_due_8 : decode cX5_due 8 = .ok (.istore_n 2, 1) := by decide +kernel
theorem dX5_due_9 : decode cX5_due 9 = .ok (.iload_n 2, 1) := by decide +kernel
theorem dX5_due_10 : decode cX5_due 10 = .ok (.ifCond .lt 28, 3) := by decide +kernel
theorem dX5_due_13 : decode cX5_due 13 = .ok (.aload_n 0, 1) := by decide +kernel
theorem dX5_due_14 : decode cX5_due 14 = .ok (.getfield 46, 3) := by decide +kernel
theorem dX5_due_17 : decode cX5_due 17 = .ok (.iload_n 2, 1) := by decide +kernel
theorem dX5_due_18 : decode cX5_due 18 = .ok (.iaload, 1) := by decide +kernel
theorem dX5_due_19 : decode cX5_due 19 = .ok (.aload_n 0, 1) := by decide +kernel
theorem dX5_due_20 : decode cX5_due 20 = .ok (.getfield 160, 3) := by decide +kernel
theorem dX5_due_23 : decode cX5_due 23 = .ok (.if_icmp .ne 7, 3) := by decide +kernel
theorem dX5_due_26 : decode cX5_due 26 = .ok (.iload_n 2, 1) := by decide +kernel
theorem dX5_due_27 : decode cX5_due 27 = .ok (.goto 4, 3) := by decide +kernel
theorem dX5_due_30 : decode cX5_due 30 = .ok (.iload_n 1, 1) := by decide +kernel
theorem dX5_due_31 : decode cX5_due 31 = .ok (.istore_n 1, 1) := by decide +kernel
theorem dX5_due_32 : decode cX5_due 32 = .ok (.iinc 2 (-1), 3) := by decide +kernel
theorem dX5_due_35 : decode cX5_due 35 = .ok (.goto (-26), 3) := by decide +kernel
theorem dX5_due_38 : decode cX5_due 38 = .ok (.iload_n 1, 1) := by decide +kernel
theorem dX5_due_39 : decode cX5_due 39 = .ok (.ireturn, 1) := by decide +kernel
set_option maxRecDepth 20000 in
theorem ggX5_tick_X5_in : GoodIn wsX5_tick wsX5_in := goodIn_r _ [6] (by decide +kernel) (by decide +kernel)
set_option maxRecDepth 20000 in
theorem gX5_tick_X5_in : GoodIn wsX5_tick (va_wsS RX5 76 yX5_in wsX5_in) := goodIn_app (goodIn_of _ (by decide +kernel)) ggX5_tick_X5_in
set_option maxRecDepth 20000 in
theorem ggX5_tick_X5_due : GoodIn wsX5_tick wsX5_due := goodIn_r _ [10, 11, 12, 1, 91, 92, 93, 94, 95, 96, 97, 98, 99, 100, 101, 102, 103, 104, 105, 106, 107, 108, 109, 110, 111, 112, 113, 114, 115, 116, 117, 118, 119, 120, 121, 122, 123, 124, 125, 126] (by decide +kernel) (by decide +kernel)
set_option maxRecDepth 20000 in
theorem gX5_tick_X5_due : GoodIn wsX5_tick (wsV RX5 178 RX5 yX5_due wsX5_due) := goodIn_app (goodIn_of _ (by decide +kernel)) ggX5_tick_X5_due
set_option maxRecDepth 20000 in
theorem ggX5_tick_X5_comes : GoodIn wsX5_tick wsX5_comes := goodIn_r _ [16, 17, 11, 12, 18, 19, 20, 21, 22, 1, 23, 24, 25, 5, 26, 27, 28, 29, 30, 2, 31, 32, 33, 34, 35, 36, 37, 38, 39, 40, 41, 42, 43, 44, 45, 46, 47, 48, 49, 50, 51, 52, 53, 54, 55, 56, 57, 58, 59, 60, 61, 62, 3, 4, 6, 63, 64, 65, 66, 67, 68, 69, 70, 71, 72, 73, 74, 75, 76, 77, 78, 79, 80, 81, 82, 83, 84, 85, 86, 87, 88, 89, 90, 91, 92, 93, 94, 95, 96, 97, 98, 99, 100, 101, 102, 103, 104, 105, 106, 107, 108, 109, 110, 111, 112, 113, 114, 115, 116, 117, 118, 119, 120, 121, 122, 123, 124, 125, 126] rfl (by decide +kernel)
set_option maxRecDepth 20000 in
theorem gX5_tick_X5_comes : GoodIn wsX5_tick (wsV RX5 182 RX5 yX5_comes wsX5_comes) := goodIn_app (goodIn_of _ (by decide +kernel)) ggX5_tick_X5_comes
theorem dX5_tick_0 : decode cX5_tick 0 = .ok (.iload_n 1, 1) := by decide +kernel
theorem dX5_tick_1 : decode cX5_tick 1 = .ok (.iconst 1, 1) := by decide +kernel
theorem dX5_tick_2 : decode cX5_tick 2 = .ok (.bipush 50, 2) := by decide +kernel
theorem dX5_tick_4 : decode cX5_tick 4 = .ok (.invokestatic 76, 3) := by decide +kernel
theorem dX5_tick_7 : decode cX5_tick 7 = .ok (.ifCond .ne 6, 3) := by decide +kernel
theorem dX5_tick_10 : decode cX5_tick 10 = .ok (.bipush (-3), 2) := by decide +kernel
theorem dX5_tick_12 : decode cX5_tick 12 = .ok (.ireturn, 1) := by decide +kernel
theorem dX5_tick_13 : decode cX5_tick 13 = .ok (.iconst 0, 1) := by decide +kernel
theorem dX5_tick_14 : decode cX5_tick 14 = .ok (.istore_n 2, 1) := by decide +kernel
theorem dX5_tick_15 : decode cX5_tick 15 = .ok (.iconst 0, 1) := by decide +kernel
theorem dX5_tick_16 : decode cX5_tick 16 = .ok (.istore_n 3, 1) := by decide +kernel
theorem dX5_tick_17 : decode cX5_tick 17 = .ok (.iload_n 3, 1) := by decide +kernel
theorem dX5_tick_18 : decode cX5_tick 18 = .ok (.iload_n 1, 1) := by decide +kernel
theorem dX5_tick_19 : decode cX5_tick 19 = .ok (.if_icmp .ge 74, 3) := by decide +kernel
theorem dX5_tick_22 : decode cX5_tick 22 = .ok (.aload_n 0, 1) := by decide +kernel
theorem dX5_tick_23 : decode cX5_tick 23 = .ok (.dup, 1) := by decide +kernel
theorem dX5_tick_24 : decode cX5_tick 24 = .ok (.getfield 160, 3) := by decide +kernel
theorem dX5_tick_27 : decode cX5_tick 27 = .ok (.iconst 1, 1) := by decide +kernel
theorem dX5_tick_28 : decode cX5_tick 28 = .ok (.iadd, 1) := by decide +kernel
theorem dX5_tick_29 : decode cX5_tick 29 = .ok (.putfield 160, 3) := by decide +kernel
theorem dX5_tick_32 : decode cX5_tick 32 = .ok (.iconst 0, 1) := by decide +kernel
theorem dX5_tick_33 : decode cX5_tick 33 = .ok (.istore 4, 2) := by decide +kernel
theorem dX5_tick_35 : decode cX5_tick 35 = .ok (.aload_n 0, 1) := by decide +kernel
theorem dX5_tick_36 : decode cX5_tick 36 = .ok (.invokevirtual 178, 3) := by decide +kernel
theorem dX5_tick_39 : decode cX5_tick 39 = .ok (.istore 5, 2) := by decide +kernel
theorem dX5_tick_41 : decode cX5_tick 41 = .ok (.iload 4, 2) := by decide +kernel
theorem dX5_tick_43 : decode cX5_tick 43 = .ok (.bipush 100, 2) := by decide +kernel
theorem dX5_tick_45 : decode cX5_tick 45 = .ok (.if_icmp .ge 37, 3) := by decide +kernel
theorem dX5_tick_48 : decode cX5_tick 48 = .ok (.iload 5, 2) := by decide +kernel
theorem dX5_tick_50 : decode cX5_tick 50 = .ok (.iconst (-1), 1) := by decide +kernel
theorem dX5_tick_51 : decode cX5_tick 51 = .ok (.if_icmp .eq 31, 3) := by decide +kernel
theorem dX5_tick_54 : decode cX5_tick 54 = .ok (.aload_n 0, 1) := by decide +kernel
theorem dX5_tick_55 : decode cX5_tick 55 = .ok (.getfield 137, 3) := by decide +kernel
theorem dX5_tick_58 : decode cX5_tick 58 = .ok (.sipush 20000, 3) := by decide +kernel
theorem dX5_tick_61 : decode cX5_tick 61 = .ok (.if_icmp .ge 21, 3) := by decide +kernel
theorem dX5_tick_64 : decode cX5_tick 64 = .ok (.iinc 4 1, 3) := by decide +kernel
theorem dX5_tick_67 : decode cX5_tick 67 = .ok (.aload_n 0, 1) := by decide +kernel
theorem dX5_tick_68 : decode cX5_tick 68 = .ok (.iload 5, 2) := by decide +kernel
theorem dX5_tick_70 : decode cX5_tick 70 = .ok (.invokevirtual 182, 3) := by decide +kernel
theorem dX5_tick_73 : decode cX5_tick 73 = .ok (.aload_n 0, 1) := by decide +kernel
theorem dX5_tick_74 : decode cX5_tick 74 = .ok (.invokevirtual 178, 3) := by decide +kernel
theorem dX5_tick_77 : decode cX5_tick 77 = .ok (.istore 5, 2) := by decide +kernel
theorem dX5_tick_79 : decode cX5_tick 79 = .ok (.goto (-38), 3) := by decide +kernel
theorem dX5_tick_82 : decode cX5_tick 82 = .ok (.iload_n 2, 1) := by decide +kernel
theorem dX5_tick_83 : decode cX5_tick 83 = .ok (.iload 4, 2) := by decide +kernel
theorem dX5_tick_85 : decode cX5_tick 85 = .ok (.iadd, 1) := by decide +kernel
theorem dX5_tick_86 : decode cX5_tick 86 = .ok (.istore_n 2, 1) := by decide +kernel
theorem dX5_tick_87 : decode cX5_tick 87 = .ok (.iinc 3 1, 3) := by decide +kernel
theorem dX5_tick_90 : decode cX5_tick 90 = .ok (.goto (-73), 3) := by decide +kernel
theorem dX5_tick_93 : decode cX5_tick 93 = .ok (.iload_n 2, 1) := by decide +kernel
theorem dX5_tick_94 : decode cX5_tick 94 = .ok (.ireturn, 1) := by decide +kernel
set_option maxRecDepth 20000 in
theorem ggX5_comes_X5_go : GoodIn wsX5_comes wsX5_go := goodIn_r _ [14, 15, 16, 17, 18, 19, 20, 21, 22, 13, 23, 24, 4, 25, 26, 27, 28, 29, 30, 31, 32, 33, 34, 35, 36, 37, 38, 39, 40, 41, 42, 43, 44, 45, 46, 47, 48, 49, 50, 51, 52, 53, 54, 55, 56, 57, 58, 59, 60, 61, 62, 63, 64, 65, 66, 67, 68, 69, 70, 71, 72, 73, 74, 75, 76, 77, 78, 9, 79, 80, 81, 82, 2, 1, 3, 83, 84, 85, 86, 87, 88, 89, 90, 91, 92, 93, 94, 95, 96, 97, 98, 99, 100, 101, 102, 103, 104, 105, 106, 107, 108, 109, 110, 111, 112, 113, 114, 115, 116, 117, 118] rfl (by decide +kernel)
set_option maxRecDepth 20000 in
theorem gX5_comes_X5_go : GoodIn wsX5_comes (wsV RX5 169 RX5 yX5_go wsX5_go) := goodIn_app (goodIn_of _ (by decide +kernel)) ggX5_comes_X5_go
theorem dX5_comes_0 : decode cX5_comes 0 = .ok (.aload_n 0, 1) := by decide +kernel
theorem dX5_comes_1 : decode cX5_comes 1 = .ok (.getfield 43, 3) := by decide +kernel
theorem dX5_comes_4 : decode cX5_comes 4 = .ok (.iload_n 1, 1) := by decide +kernel
theorem dX5_comes_5 : decode cX5_comes 5 = .ok (.iaload, 1) := by decide +kernel
theorem dX5_comes_6 : decode cX5_comes 6 = .ok (.istore_n 2, 1) := by decide +kernel
theorem dX5_comes_7 : decode cX5_comes 7 = .ok (.aload_n 0, 1) := by decide +kernel
theorem dX5_comes_8 : decode cX5_comes 8 = .ok (.dup, 1) := by decide +kernel
theorem dX5_comes_9 : decode cX5_comes 9 = .ok (.getfield 166, 3) := by decide +kernel
theorem dX5_comes_12 : decode cX5_comes 12 = .ok (.iconst 1, 1) := by decide +kernel
theorem dX5_comes_13 : decode cX5_comes 13 = .ok (.isub, 1) := by decide +kernel
theorem dX5_comes_14 : decode cX5_comes 14 = .ok (.putfield 166, 3) := by decide +kernel
theorem dX5_comes_17 : decode cX5_comes 17 = .ok (.iload_n 1, 1) := by decide +kernel
theorem dX5_comes_18 : decode cX5_comes 18 = .ok (.istore_n 3, 1) := by decide +kernel
theorem dX5_comes_19 : decode cX5_comes 19 = .ok (.iload_n 3, 1) := by decide +kernel
theorem dX5_comes_20 : decode cX5_comes 20 = .ok (.aload_n 0, 1) := by decide +kernel
theorem dX5_comes_21 : decode cX5_comes 21 = .ok (.getfield 166, 3) := by decide +kernel
theorem dX5_comes_24 : decode cX5_comes 24 = .ok (.if_icmp .ge 37, 3) := by decide +kernel
theorem dX5_comes_27 : decode cX5_comes 27 = .ok (.aload_n 0, 1) := by decide +kernel
theorem dX5_comes_28 : decode cX5_comes 28 = .ok (.getfield 43, 3) := by decide +kernel
theorem dX5_comes_31 : decode cX5_comes 31 = .ok (.iload_n 3, 1) := by decide +kernel
theorem dX5_comes_32 : decode cX5_comes 32 = .ok (.aload_n 0, 1) := by decide +kernel
theorem dX5_comes_33 : decode cX5_comes 33 = .ok (.getfield 43, 3) := by decide +kernel
theorem dX5_comes_36 : decode cX5_comes 36 = .ok (.iload_n 3, 1) := by decide +kernel
theorem dX5_comes_37 : decode cX5_comes 37 = .ok (.iconst 1, 1) := by decide +kernel
theorem dX5_comes_38 : decode cX5_comes 38 = .ok (.iadd, 1) := by decide +kernel
theorem dX5_comes_39 : decode cX5_comes 39 = .ok (.iaload, 1) := by decide +kernel
theorem dX5_comes_40 : decode cX5_comes 40 = .ok (.iastore, 1) := by decide +kernel
theorem dX5_comes_41 : decode cX5_comes 41 = .ok (.aload_n 0, 1) := by decide +kernel
theorem dX5_comes_42 : decode cX5_comes 42 = .ok (.getfield 46, 3) := by decide +kernel
theorem dX5_comes_45 : decode cX5_comes 45 = .ok (.iload_n 3, 1) := by decide +kernel
theorem dX5_comes_46 : decode cX5_comes 46 = .ok (.aload_n 0, 1) := by decide +kernel
theorem dX5_comes_47 : decode cX5_comes 47 = .ok (.getfield 46, 3) := by decide +kernel
theorem dX5_comes_50 : decode cX5_comes 50 = .ok (.iload_n 3, 1) := by decide +kernel
theorem dX5_comes_51 : decode cX5_comes 51 = .ok (.iconst 1, 1) := by decide +kernel
theorem dX5_comes_52 : decode cX5_comes 52 = .ok (.iadd, 1) := by decide +kernel
theorem dX5_comes_53 : decode cX5_comes 53 = .ok (.iaload, 1) := by decide +kernel
theorem dX5_comes_54 : decode cX5_comes 54 = .ok (.iastore, 1) := by decide +kernel
theorem dX5_comes_55 : decode cX5_comes 55 = .ok (.iinc 3 1, 3) := by decide +kernel
theorem dX5_comes_58 : decode cX5_comes 58 = .ok (.goto (-39), 3) := by decide +kernel
theorem dX5_comes_61 : decode cX5_comes 61 = .ok (.aload_n 0, 1) := by decide +kernel
theorem dX5_comes_62 : decode cX5_comes 62 = .ok (.iconst 1, 1) := by decide +kernel
theorem dX5_comes_63 : decode cX5_comes 63 = .ok (.iload_n 2, 1) := by decide +kernel
theorem dX5_comes_64 : decode cX5_comes 64 = .ok (.invokevirtual 169, 3) := by decide +kernel
theorem dX5_comes_67 : decode cX5_comes 67 = .ok (.aload_n 0, 1) := by decide +kernel
theorem dX5_comes_68 : decode cX5_comes 68 = .ok (.getfield 118, 3) := by decide +kernel
theorem dX5_comes_71 : decode cX5_comes 71 = .ok (.ifCond .eq 58, 3) := by decide +kernel
theorem dX5_comes_74 : decode cX5_comes 74 = .ok (.aload_n 0, 1) := by decide +kernel
theorem dX5_comes_75 : decode cX5_comes 75 = .ok (.getfield 185, 3) := by decide +kernel
theorem dX5_comes_78 : decode cX5_comes 78 = .ok (.bipush 30, 2) := by decide +kernel
theorem dX5_comes_80 : decode cX5_comes 80 = .ok (.if_icmp .ge 49, 3) := by decide +kernel
theorem dX5_comes_83 : decode cX5_comes 83 = .ok (.aload_n 0, 1) := by decide +kernel
theorem dX5_comes_84 : decode cX5_comes 84 = .ok (.getfield 49, 3) := by decide +kernel
theorem dX5_comes_87 : decode cX5_comes 87 = .ok (.aload_n 0, 1) := by decide +kernel
theorem dX5_comes_88 : decode cX5_comes 88 = .ok (.getfield 185, 3) := by decide +kernel
theorem dX5_comes_91 : decode cX5_comes 91 = .ok (.iload_n 2, 1) := by decide +kernel
theorem dX5_comes_92 : decode cX5_comes 92 = .ok (.iastore, 1) := by decide +kernel
theorem dX5_comes_93 : decode cX5_comes 93 = .ok (.aload_n 0, 1) := by decide +kernel
theorem dX5_comes_94 : decode cX5_comes 94 = .ok (.getfield 52, 3) := by decide +kernel
theorem dX5_comes_97 : decode cX5_comes 97 = .ok (.aload_n 0, 1) := by decide +kernel
theorem dX5_comes_98 : decode cX5_comes 98 = .ok (.getfield 185, 3) := by decide +kernel
theorem dX5_comes_101 : decode cX5_comes 101 = .ok (.aload_n 0, 1) := by decide +kernel
theorem dX5_comes_102 : decode cX5_comes 102 = .ok (.getfield 118, 3) := by decide +kernel
theorem dX5_comes_105 : decode cX5_comes 105 = .ok (.iastore, 1) := by decide +kernel
theorem dX5_comes_106 : decode cX5_comes 106 = .ok (.aload_n 0, 1) := by decide +kernel
theorem dX5_comes_107 : decode cX5_comes 107 = .ok (.getfield 55, 3) := by decide +kernel
theorem dX5_comes_110 : decode cX5_comes 110 = .ok (.aload_n 0, 1) := by decide +kernel
theorem dX5_comes_111 : decode cX5_comes 111 = .ok (.getfield 185, 3) := by decide +kernel
theorem dX5_comes_114 : decode cX5_comes 114 = .ok (.aload_n 0, 1) := by decide +kernel
theorem dX5_comes_115 : decode cX5_comes 115 = .ok (.getfield 160, 3) := by decide +kernel
theorem dX5_comes_118 : decode cX5_comes 118 = .ok (.iastore, 1) := by decide +kernel
theorem dX5_comes_119 : decode cX5_comes 119 = .ok (.aload_n 0, 1) := by decide +kernel
theorem dX5_comes_120 : decode cX5_comes 120 = .ok (.dup, 1) := by decide +kernel
theorem dX5_comes_121 : decode cX5_comes 121 = .ok (.getfield 185, 3) := by decide +kernel
theorem dX5_comes_124 : decode cX5_comes 124 = .ok (.iconst 1, 1) := by decide +kernel
theorem dX5_comes_125 : decode cX5_comes 125 = .ok (.iadd, 1) := by decide +kernel
theorem dX5_comes_126 : decode cX5_comes 126 = .ok (.putfield 185, 3) := by decide +kernel
theorem dX5_comes_129 : decode cX5_comes 129 = .ok (.return_, 1) := by decide +kernel
set_option maxRecDepth 20000 in
theorem ggX5_failed_X5_in : GoodIn wsX5_failed wsX5_in := goodIn_r _ [8] (by decide +kernel) (by decide +kernel)
set_option maxRecDepth 20000 in
theorem gX5_failed_X5_in : GoodIn wsX5_failed (va_wsS RX5 76 yX5_in wsX5_in) := goodIn_app (goodIn_of _ (by decide +kernel)) ggX5_failed_X5_in
theorem dX5_failed_0 : decode cX5_failed 0 = .ok (.iload_n 2, 1) := by decide +kernel
theorem dX5_failed_1 : decode cX5_failed 1 = .ok (.iconst 0, 1) := by decide +kernel
theorem dX5_failed_2 : decode cX5_failed 2 = .ok (.iconst 2, 1) := by decide +kernel
theorem dX5_failed_3 : decode cX5_failed 3 = .ok (.invokestatic 76, 3) := by decide +kernel
theorem dX5_failed_6 : decode cX5_failed 6 = .ok (.ifCond .ne 6, 3) := by decide +kernel
theorem dX5_failed_9 : decode cX5_failed 9 = .ok (.bipush (-3), 2) := by decide +kernel
theorem dX5_failed_11 : decode cX5_failed 11 = .ok (.ireturn, 1) := by decide +kernel
theorem dX5_failed_12 : decode cX5_failed 12 = .ok (.iload_n 1, 1) := by decide +kernel
theorem dX5_failed_13 : decode cX5_failed 13 = .ok (.iconst 0, 1) := by decide +kernel
theorem dX5_failed_14 : decode cX5_failed 14 = .ok (.aload_n 0, 1) := by decide +kernel
theorem dX5_failed_15 : decode cX5_failed 15 = .ok (.getfield 185, 3) := by decide +kernel
theorem dX5_failed_18 : decode cX5_failed 18 = .ok (.iconst 1, 1) := by decide +kernel
theorem dX5_failed_19 : decode cX5_failed 19 = .ok (.isub, 1) := by decide +kernel
theorem dX5_failed_20 : decode cX5_failed 20 = .ok (.invokestatic 76, 3) := by decide +kernel
theorem dX5_failed_23 : decode cX5_failed 23 = .ok (.ifCond .ne 5, 3) := by decide +kernel
theorem dX5_failed_26 : decode cX5_failed 26 = .ok (.iconst (-1), 1) := by decide +kernel
theorem dX5_failed_27 : decode cX5_failed 27 = .ok (.ireturn, 1) := by decide +kernel
theorem dX5_failed_28 : decode cX5_failed 28 = .ok (.iload_n 2, 1) := by decide +kernel
theorem dX5_failed_29 : decode cX5_failed 29 = .ok (.ifCond .ne 12, 3) := by decide +kernel
theorem dX5_failed_32 : decode cX5_failed 32 = .ok (.aload_n 0, 1) := by decide +kernel
theorem dX5_failed_33 : decode cX5_failed 33 = .ok (.getfield 49, 3) := by decide +kernel
theorem dX5_failed_36 : decode cX5_failed 36 = .ok (.iload_n 1, 1) := by decide +kernel
theorem dX5_failed_37 : decode cX5_failed 37 = .ok (.iaload, 1) := by decide +kernel
theorem dX5_failed_38 : decode cX5_failed 38 = .ok (.goto 23, 3) := by decide +kernel
theorem dX5_failed_41 : decode cX5_failed 41 = .ok (.iload_n 2, 1) := by decide +kernel
theorem dX5_failed_42 : decode cX5_failed 42 = .ok (.iconst 1, 1) := by decide +kernel
theorem dX5_failed_43 : decode cX5_failed 43 = .ok (.if_icmp .ne 12, 3) := by decide +kernel
theorem dX5_failed_46 : decode cX5_failed 46 = .ok (.aload_n 0, 1) := by decide +kernel
theorem dX5_failed_47 : decode cX5_failed 47 = .ok (.getfield 52, 3) := by decide +kernel
theorem dX5_failed_50 : decode cX5_failed 50 = .ok (.iload_n 1, 1) := by decide +kernel
theorem dX5_failed_51 : decode cX5_failed 51 = .ok (.iaload, 1) := by decide +kernel
theorem dX5_failed_52 : decode cX5_failed 52 = .ok (.goto 9, 3) := by decide +kernel
theorem dX5_failed_55 : decode cX5_failed 55 = .ok (.aload_n 0, 1) := by decide +kernel
theorem dX5_failed_56 : decode cX5_failed 56 = .ok (.getfield 55, 3) := by decide +kernel
theorem dX5_failed_59 : decode cX5_failed 59 = .ok (.iload_n 1, 1) := by decide +kernel
theorem dX5_failed_60 : decode cX5_failed 60 = .ok (.iaload, 1) := by decide +kernel
theorem dX5_failed_61 : decode cX5_failed 61 = .ok (.ireturn, 1) := by decide +kernel
theorem dX5_count_0 : decode cX5_count 0 = .ok (.iload_n 1, 1) := by decide +kernel
theorem dX5_count_1 : decode cX5_count 1 = .ok (.tableswitch 78 0 6 #[43, 48, 53, 58, 63, 68, 73], 43) := by decide +kernel
theorem dX5_count_44 : decode cX5_count 44 = .ok (.aload_n 0, 1) := by decide +kernel
theorem dX5_count_45 : decode cX5_count 45 = .ok (.getfield 92, 3) := by decide +kernel
theorem dX5_count_48 : decode cX5_count 48 = .ok (.ireturn, 1) := by decide +kernel
theorem dX5_count_49 : decode cX5_count 49 = .ok (.aload_n 0, 1) := by decide +kernel
theorem dX5_count_50 : decode cX5_count 50 = .ok (.getfield 95, 3) := by decide +kernel
theorem dX5_count_53 : decode cX5_count 53 = .ok (.ireturn, 1) := by decide +kernel
theorem dX5_count_54 : decode cX5_count 54 = .ok (.aload_n 0, 1) := by decide +kernel
theorem dX5_count_55 : decode cX5_count 55 = .ok (.getfield 166, 3) := by decide +kernel
theorem dX5_count_58 : decode cX5_count 58 = .ok (.ireturn, 1) := by decide +kernel
theorem dX5_count_59 : decode cX5_count 59 = .ok (.aload_n 0, 1) := by decide +kernel
theorem dX5_count_60 : decode cX5_count 60 = .ok (.getfield 160, 3) := by decide +kernel
theorem dX5_count_63 : decode cX5_count 63 = .ok (.ireturn, 1) := by decide +kernel
theorem dX5_count_64 : decode cX5_count 64 = .ok (.aload_n 0, 1) := by decide +kernel
theorem dX5_count_65 : decode cX5_count 65 = .ok (.getfield 185, 3) := by decide +kernel
theorem dX5_count_68 : decode cX5_count 68 = .ok (.ireturn, 1) := by decide +kernel
theorem dX5_count_69 : decode cX5_count 69 = .ok (.aload_n 0, 1) := by decide +kernel
theorem dX5_count_70 : decode cX5_count 70 = .ok (.getfield 172, 3) := by decide +kernel
theorem dX5_count_73 : decode cX5_count 73 = .ok (.ireturn, 1) := by decide +kernel
theorem dX5_count_74 : decode cX5_count 74 = .ok (.aload_n 0, 1) := by decide +kernel
theorem dX5_count_75 : decode cX5_count 75 = .ok (.getfield 137, 3) := by decide +kernel
theorem dX5_count_78 : decode cX5_count 78 = .ok (.ireturn, 1) := by decide +kernel
theorem dX5_count_79 : decode cX5_count 79 = .ok (.bipush (-3), 2) := by decide +kernel
theorem dX5_count_81 : decode cX5_count 81 = .ok (.ireturn, 1) := by decide +kernel
theorem dX5_why_0 : decode cX5_why 0 = .ok (.aload_n 0, 1) := by decide +kernel
theorem dX5_why_1 : decode cX5_why 1 = .ok (.getfield 84, 3) := by decide +kernel
theorem dX5_why_4 : decode cX5_why 4 = .ok (.ireturn, 1) := by decide +kernel
