theorem dX11_next_116 : decode cX11_next 116 = .ok (.aload_n 0, 1) := by decide +kernel
theorem dX11_next_117 : decode cX11_next 117 = .ok (.aload_n 0, 1) := by decide +kernel
theorem dX11_next_118 : decode cX11_next 118 = .ok (.invokevirtual 215, 3) := by decide +kernel
theorem dX11_next_121 : decode cX11_next 121 = .ok (.putfield 218, 3) := by decide +kernel
theorem dX11_next_124 : decode cX11_next 124 = .ok (.aload_n 0, 1) := by decide +kernel
theorem dX11_next_125 : decode cX11_next 125 = .ok (.aload_n 0, 1) := by decide +kernel
theorem dX11_next_126 : decode cX11_next 126 = .ok (.getfield 218, 3) := by decide +kernel
theorem dX11_next_129 : decode cX11_next 129 = .ok (.bipush (-4), 2) := by decide +kernel
theorem dX11_next_131 : decode cX11_next 131 = .ok (.if_icmp .eq 7, 3) := by decide +kernel
theorem dX11_next_134 : decode cX11_next 134 = .ok (.iconst 1, 1) := by decide +kernel
theorem dX11_next_135 : decode cX11_next 135 = .ok (.goto 4, 3) := by decide +kernel
theorem dX11_next_138 : decode cX11_next 138 = .ok (.iconst 0, 1) := by decide +kernel
theorem dX11_next_139 : decode cX11_next 139 = .ok (.iconst 1, 1) := by decide +kernel
theorem dX11_next_140 : decode cX11_next 140 = .ok (.invokevirtual 221, 3) := by decide +kernel
theorem dX11_next_143 : decode cX11_next 143 = .ok (.goto 161, 3) := by decide +kernel
theorem dX11_next_146 : decode cX11_next 146 = .ok (.iload_n 1, 1) := by decide +kernel
theorem dX11_next_147 : decode cX11_next 147 = .ok (.i2l, 1) := by decide +kernel
theorem dX11_next_148 : decode cX11_next 148 = .ok (.ldc2_w 225, 3) := by decide +kernel
theorem dX11_next_151 : decode cX11_next 151 = .ok (.ldc2_w 227, 3) := by decide +kernel
theorem dX11_next_154 : decode cX11_next 154 = .ok (.invokestatic 103, 3) := by decide +kernel
theorem dX11_next_157 : decode cX11_next 157 = .ok (.ifCond .eq 116, 3) := by decide +kernel
theorem dX11_next_160 : decode cX11_next 160 = .ok (.aload_n 0, 1) := by decide +kernel
theorem dX11_next_161 : decode cX11_next 161 = .ok (.iconst 2, 1) := by decide +kernel
theorem dX11_next_162 : decode cX11_next 162 = .ok (.putfield 208, 3) := by decide +kernel
theorem dX11_next_165 : decode cX11_next 165 = .ok (.aload_n 0, 1) := by decide +kernel
theorem dX11_next_166 : decode cX11_next 166 = .ok (.iconst 0, 1) := by decide +kernel
theorem dX11_next_167 : decode cX11_next 167 = .ok (.putfield 218, 3) := by decide +kernel
theorem dX11_next_170 : decode cX11_next 170 = .ok (.aload_n 0, 1) := by decide +kernel
theorem dX11_next_171 : decode cX11_next 171 = .ok (.aload_n 0, 1) := by decide +kernel
theorem dX11_next_172 : decode cX11_next 172 = .ok (.getfield 198, 3) := by decide +kernel
theorem dX11_next_175 : decode cX11_next 175 = .ok (.invokevirtual 201, 3) := by decide +kernel
theorem dX11_next_178 : decode cX11_next 178 = .ok (.i2l, 1) := by decide +kernel
theorem dX11_next_179 : decode cX11_next 179 = .ok (.ldc2_w 225, 3) := by decide +kernel
theorem dX11_next_182 : decode cX11_next 182 = .ok (.ldc2_w 227, 3) := by decide +kernel
theorem dX11_next_185 : decode cX11_next 185 = .ok (.invokestatic 103, 3) := by decide +kernel
theorem dX11_next_188 : decode cX11_next 188 = .ok (.ifCond .eq 59, 3) := by decide +kernel
theorem dX11_next_191 : decode cX11_next 191 = .ok (.aload_n 0, 1) := by decide +kernel
theorem dX11_next_192 : decode cX11_next 192 = .ok (.aload_n 0, 1) := by decide +kernel
theorem dX11_next_193 : decode cX11_next 193 = .ok (.getfield 198, 3) := by decide +kernel
theorem dX11_next_196 : decode cX11_next 196 = .ok (.aload_n 0, 1) := by decide +kernel
theorem dX11_next_197 : decode cX11_next 197 = .ok (.getfield 192, 3) := by decide +kernel
theorem dX11_next_200 : decode cX11_next 200 = .ok (.isub, 1) := by decide +kernel
theorem dX11_next_201 : decode cX11_next 201 = .ok (.iconst 4, 1) := by decide +kernel
theorem dX11_next_202 : decode cX11_next 202 = .ok (.if_icmp .ge 25, 3) := by decide +kernel
theorem dX11_next_205 : decode cX11_next 205 = .ok (.bipush 10, 2) := by decide +kernel
theorem dX11_next_207 : decode cX11_next 207 = .ok (.aload_n 0, 1) := by decide +kernel
theorem dX11_next_208 : decode cX11_next 208 = .ok (.getfield 218, 3) := by decide +kernel
theorem dX11_next_211 : decode cX11_next 211 = .ok (.imul, 1) := by decide +kernel
theorem dX11_next_212 : decode cX11_next 212 = .ok (.aload_n 0, 1) := by decide +kernel
theorem dX11_next_213 : decode cX11_next 213 = .ok (.aload_n 0, 1) := by decide +kernel
theorem dX11_next_214 : decode cX11_next 214 = .ok (.getfield 198, 3) := by decide +kernel
theorem dX11_next_217 : decode cX11_next 217 = .ok (.invokevirtual 201, 3) := by decide +kernel
theorem dX11_next_220 : decode cX11_next 220 = .ok (.iadd, 1) := by decide +kernel
theorem dX11_next_221 : decode cX11_next 221 = .ok (.bipush 48, 2) := by decide +kernel
theorem dX11_next_223 : decode cX11_next 223 = .ok (.isub, 1) := by decide +kernel
theorem dX11_next_224 : decode cX11_next 224 = .ok (.goto 7, 3) := by decide +kernel
theorem dX11_next_227 : decode cX11_next 227 = .ok (.aload_n 0, 1) := by decide +kernel
theorem dX11_next_228 : decode cX11_next 228 = .ok (.getfield 218, 3) := by decide +kernel
theorem dX11_next_231 : decode cX11_next 231 = .ok (.putfield 218, 3) := by decide +kernel
theorem dX11_next_234 : decode cX11_next 234 = .ok (.aload_n 0, 1) := by decide +kernel
theorem dX11_next_235 : decode cX11_next 235 = .ok (.dup, 1) := by decide +kernel
theorem dX11_next_236 : decode cX11_next 236 = .ok (.getfield 198, 3) := by decide +kernel
theorem dX11_next_239 : decode cX11_next 239 = .ok (.iconst 1, 1) := by decide +kernel
theorem dX11_next_240 : decode cX11_next 240 = .ok (.iadd, 1) := by decide +kernel
theorem dX11_next_241 : decode cX11_next 241 = .ok (.putfield 198, 3) := by decide +kernel
theorem dX11_next_244 : decode cX11_next 244 = .ok (.goto (-74), 3) := by decide +kernel
theorem dX11_next_247 : decode cX11_next 247 = .ok (.aload_n 0, 1) := by decide +kernel
theorem dX11_next_248 : decode cX11_next 248 = .ok (.aload_n 0, 1) := by decide +kernel
theorem dX11_next_249 : decode cX11_next 249 = .ok (.getfield 198, 3) := by decide +kernel
theorem dX11_next_252 : decode cX11_next 252 = .ok (.aload_n 0, 1) := by decide +kernel
theorem dX11_next_253 : decode cX11_next 253 = .ok (.getfield 192, 3) := by decide +kernel
theorem dX11_next_256 : decode cX11_next 256 = .ok (.isub, 1) := by decide +kernel
theorem dX11_next_257 : decode cX11_next 257 = .ok (.iconst 4, 1) := by decide +kernel
theorem dX11_next_258 : decode cX11_next 258 = .ok (.if_icmp .gt 7, 3) := by decide +kernel
theorem dX11_next_261 : decode cX11_next 261 = .ok (.iconst 1, 1) := by decide +kernel
theorem dX11_next_262 : decode cX11_next 262 = .ok (.goto 4, 3) := by decide +kernel
theorem dX11_next_265 : decode cX11_next 265 = .ok (.iconst 0, 1) := by decide +kernel
theorem dX11_next_266 : decode cX11_next 266 = .ok (.iconst 1, 1) := by decide +kernel
theorem dX11_next_267 : decode cX11_next 267 = .ok (.invokevirtual 221, 3) := by decide +kernel
theorem dX11_next_270 : decode cX11_next 270 = .ok (.goto 34, 3) := by decide +kernel
theorem dX11_next_273 : decode cX11_next 273 = .ok (.aload_n 0, 1) := by decide +kernel
theorem dX11_next_274 : decode cX11_next 274 = .ok (.iconst 3, 1) := by decide +kernel
theorem dX11_next_275 : decode cX11_next 275 = .ok (.putfield 208, 3) := by decide +kernel
theorem dX11_next_278 : decode cX11_next 278 = .ok (.aload_n 0, 1) := by decide +kernel
theorem dX11_next_279 : decode cX11_next 279 = .ok (.iload_n 1, 1) := by decide +kernel
theorem dX11_next_280 : decode cX11_next 280 = .ok (.bipush 59, 2) := by decide +kernel
theorem dX11_next_282 : decode cX11_next 282 = .ok (.if_icmp .ne 7, 3) := by decide +kernel
theorem dX11_next_285 : decode cX11_next 285 = .ok (.iconst 1, 1) := by decide +kernel
theorem dX11_next_286 : decode cX11_next 286 = .ok (.goto 4, 3) := by decide +kernel
theorem dX11_next_289 : decode cX11_next 289 = .ok (.iconst 0, 1) := by decide +kernel
theorem dX11_next_290 : decode cX11_next 290 = .ok (.iconst 1, 1) := by decide +kernel
theorem dX11_next_291 : decode cX11_next 291 = .ok (.invokevirtual 221, 3) := by decide +kernel
theorem dX11_next_294 : decode cX11_next 294 = .ok (.aload_n 0, 1) := by decide +kernel
theorem dX11_next_295 : decode cX11_next 295 = .ok (.dup, 1) := by decide +kernel
theorem dX11_next_296 : decode cX11_next 296 = .ok (.getfield 198, 3) := by decide +kernel
theorem dX11_next_299 : decode cX11_next 299 = .ok (.iconst 1, 1) := by decide +kernel
theorem dX11_next_300 : decode cX11_next 300 = .ok (.iadd, 1) := by decide +kernel
theorem dX11_next_301 : decode cX11_next 301 = .ok (.putfield 198, 3) := by decide +kernel
theorem dX11_next_304 : decode cX11_next 304 = .ok (.return_, 1) := by decide +kernel
set_option maxRecDepth 20000 in
theorem ggX11_readNumber_X11_wants : GoodIn wsX11_readNumber wsX11_wants := goodIn_r _ [9, 1, 10, 11, 38, 39, 40, 41, 42, 43, 44, 45, 46, 47, 48, 49, 50, 51, 52, 53, 54, 55, 56, 57, 58, 59, 60, 61, 62, 63, 64, 65, 66, 67, 68, 69, 70, 71, 72, 73, 74, 75, 76, 77, 78, 79, 80, 81, 82, 83, 84, 85] (by decide +kernel) (by decide +kernel)
set_option maxRecDepth 20000 in
theorem gX11_readNumber_X11_wants : GoodIn wsX11_readNumber (wsV RX11 221 RX11 yX11_wants wsX11_wants) := goodIn_app (goodIn_of _ (by decide +kernel)) ggX11_readNumber_X11_wants
set_option maxRecDepth 20000 in
theorem ggX11_readNumber_X11_in : GoodIn wsX11_readNumber wsX11_in := goodIn_r _ [14] (by decide +kernel) (by decide +kernel)
set_option maxRecDepth 20000 in
theorem gX11_readNumber_X11_in : GoodIn wsX11_readNumber (va_wsS RX11 103 yX11_in wsX11_in) := goodIn_app (goodIn_of _ (by decide +kernel)) ggX11_readNumber_X11_in
set_option maxRecDepth 20000 in
theorem ggX11_readNumber_X11_next : GoodIn wsX11_readNumber wsX11_next := goodIn_r _ [18, 1, 19, 10, 2, 20, 21, 3, 22, 23, 24, 25, 26, 8, 27, 28, 29, 12, 13, 14, 30, 31, 32, 33, 34, 35, 36, 37, 5, 6, 7, 9, 11, 38, 39, 40, 41, 42, 43, 44, 45, 46, 47, 48, 49, 50, 51, 52, 53, 54, 55, 56, 57, 58, 59, 60, 61, 62, 63, 64, 65, 66, 67, 68, 69, 70, 71, 72, 73, 74, 75, 76, 77, 78, 79, 80, 81, 82, 83, 84, 85] (by decide +kernel) (by decide +kernel)
set_option maxRecDepth 20000 in
theorem gX11_readNumber_X11_next : GoodIn wsX11_readNumber (wsV RX11 229 RX11 yX11_next wsX11_next) := goodIn_app (goodIn_of _ (by decide +kernel)) ggX11_readNumber_X11_next
theorem dX11_readNumber_0 : decode cX11_readNumber 0 = .ok (.aload_n 0, 1) := by decide +kernel
theorem dX11_readNumber_1 : decode cX11_readNumber 1 = .ok (.getfield 189, 3) := by decide +kernel
theorem dX11_readNumber_4 : decode cX11_readNumber 4 = .ok (.ifCond .ne 21, 3) := by decide +kernel
theorem dX11_readNumber_7 : decode cX11_readNumber 7 = .ok (.aload_n 0, 1) := by decide +kernel
theorem dX11_readNumber_8 : decode cX11_readNumber 8 = .ok (.aload_n 0, 1) := by decide +kernel
theorem dX11_readNumber_9 : decode cX11_readNumber 9 = .ok (.getfield 208, 3) := by decide +kernel
theorem dX11_readNumber_12 : decode cX11_readNumber 12 = .ok (.iconst 2, 1) := by decide +kernel
theorem dX11_readNumber_13 : decode cX11_readNumber 13 = .ok (.if_icmp .ne 7, 3) := by decide +kernel
theorem dX11_readNumber_16 : decode cX11_readNumber 16 = .ok (.iconst 1, 1) := by decide +kernel
theorem dX11_readNumber_17 : decode cX11_readNumber 17 = .ok (.goto 4, 3) := by decide +kernel
theorem dX11_readNumber_20 : decode cX11_readNumber 20 = .ok (.iconst 0, 1) := by decide +kernel
theorem dX11_readNumber_21 : decode cX11_readNumber 21 = .ok (.iconst 2, 1) := by decide +kernel
theorem dX11_readNumber_22 : decode cX11_readNumber 22 = .ok (.invokevirtual 221, 3) := by decide +kernel
theorem dX11_readNumber_25 : decode cX11_readNumber 25 = .ok (.aload_n 0, 1) := by decide +kernel
theorem dX11_readNumber_26 : decode cX11_readNumber 26 = .ok (.getfield 189, 3) := by decide +kernel
theorem dX11_readNumber_29 : decode cX11_readNumber 29 = .ok (.ifCond .ne 20, 3) := by decide +kernel
theorem dX11_readNumber_32 : decode cX11_readNumber 32 = .ok (.aload_n 0, 1) := by decide +kernel
theorem dX11_readNumber_33 : decode cX11_readNumber 33 = .ok (.aload_n 0, 1) := by decide +kernel
theorem dX11_readNumber_34 : decode cX11_readNumber 34 = .ok (.getfield 218, 3) := by decide +kernel
theorem dX11_readNumber_37 : decode cX11_readNumber 37 = .ok (.i2l, 1) := by decide +kernel
theorem dX11_readNumber_38 : decode cX11_readNumber 38 = .ok (.iload_n 2, 1) := by decide +kernel
theorem dX11_readNumber_39 : decode cX11_readNumber 39 = .ok (.i2l, 1) := by decide +kernel
theorem dX11_readNumber_40 : decode cX11_readNumber 40 = .ok (.iload_n 3, 1) := by decide +kernel
theorem dX11_readNumber_41 : decode cX11_readNumber 41 = .ok (.i2l, 1) := by decide +kernel
theorem dX11_readNumber_42 : decode cX11_readNumber 42 = .ok (.invokestatic 103, 3) := by decide +kernel
theorem dX11_readNumber_45 : decode cX11_readNumber 45 = .ok (.iconst 3, 1) := by decide +kernel
theorem dX11_readNumber_46 : decode cX11_readNumber 46 = .ok (.invokevirtual 221, 3) := by decide +kernel
theorem dX11_readNumber_49 : decode cX11_readNumber 49 = .ok (.aload_n 0, 1) := by decide +kernel
theorem dX11_readNumber_50 : decode cX11_readNumber 50 = .ok (.getfield 63, 3) := by decide +kernel
theorem dX11_readNumber_53 : decode cX11_readNumber 53 = .ok (.iload_n 1, 1) := by decide +kernel
theorem dX11_readNumber_54 : decode cX11_readNumber 54 = .ok (.aload_n 0, 1) := by decide +kernel
theorem dX11_readNumber_55 : decode cX11_readNumber 55 = .ok (.getfield 218, 3) := by decide +kernel
theorem dX11_readNumber_58 : decode cX11_readNumber 58 = .ok (.iastore, 1) := by decide +kernel
theorem dX11_readNumber_59 : decode cX11_readNumber 59 = .ok (.aload_n 0, 1) := by decide +kernel
theorem dX11_readNumber_60 : decode cX11_readNumber 60 = .ok (.invokevirtual 229, 3) := by decide +kernel
theorem dX11_readNumber_63 : decode cX11_readNumber 63 = .ok (.return_, 1) := by decide +kernel
set_option maxRecDepth 20000 in
theorem ggX11_readLine_X11_wants : GoodIn wsX11_readLine wsX11_wants := goodIn_r _ [9, 2, 10, 11, 43, 44, 45, 46, 47, 48, 49, 50, 51, 52, 53, 54, 55, 56, 57, 58, 59, 60, 61, 62, 63, 64, 65, 66, 67, 68, 69, 70, 71, 72, 73, 74, 75, 76, 77, 78, 79, 80, 81, 82, 83, 84, 85, 86, 87, 88, 89, 90] (by decide +kernel) (by decide +kernel)
set_option maxRecDepth 20000 in
theorem gX11_readLine_X11_wants : GoodIn wsX11_readLine (wsV RX11 221 RX11 yX11_wants wsX11_wants) := goodIn_app (goodIn_of _ (by decide +kernel)) ggX11_readLine_X11_wants
set_option maxRecDepth 20000 in
theorem ggX11_readLine_X11_next : GoodIn wsX11_readLine wsX11_next := goodIn_r _ [15, 2, 16, 10, 1, 17, 18, 3, 19, 20, 21, 22, 23, 8, 24, 25, 26, 27, 28, 29, 30, 31, 32, 33, 34, 35, 36, 37, 5, 6, 7, 9, 11, 43, 44, 45, 46, 47, 48, 49, 50, 51, 52, 53, 54, 55, 56, 57, 58, 59, 60, 61, 62, 63, 64, 65, 66, 67, 68, 69, 70, 71, 72, 73, 74, 75, 76, 77, 78, 79, 80, 81, 82, 83, 84, 85, 86, 87, 88, 89, 90] (by decide +kernel) (by decide +kernel)
set_option maxRecDepth 20000 in
theorem gX11_readLine_X11_next : GoodIn wsX11_readLine (wsV RX11 229 RX11 yX11_next wsX11_next) := goodIn_app (goodIn_of _ (by decide +kernel)) ggX11_readLine_X11_next
set_option maxRecDepth 20000 in
theorem ggX11_readLine_X11_readNumber : GoodIn wsX11_readLine wsX11_readNumber := goodIn_r _ [41, 2, 1, 3, 42, 5, 6, 7, 8, 9, 10, 11, 27, 28, 29, 12, 13, 14, 15, 16, 17, 18, 19, 20, 21, 22, 23, 24, 25, 26, 30, 31, 32, 33, 34, 35, 36, 37, 43, 44, 45, 46, 47, 48, 49, 50, 51, 52, 53, 54, 55, 56, 57, 58, 59, 60, 61, 62, 63, 64, 65, 66, 67, 68, 69, 70, 71, 72, 73, 74, 75, 76, 77, 78, 79, 80, 81, 82, 83, 84, 85, 86, 87, 88, 89, 90] (by decide +kernel) (by decide +kernel)
set_option maxRecDepth 20000 in
theorem gX11_readLine_X11_readNumber : GoodIn wsX11_readLine (wsV RX11 232 RX11 yX11_readNumber wsX11_readNumber) := goodIn_app (goodIn_of _ (by decide +kernel)) ggX11_readLine_X11_readNumber
theorem dX11_readLine_0 : decode cX11_readLine 0 = .ok (.aload_n 0, 1) := by decide +kernel
theorem dX11_readLine_1 : decode cX11_readLine 1 = .ok (.aload_n 0, 1) := by decide +kernel
theorem dX11_readLine_2 : decode cX11_readLine 2 = .ok (.getfield 208, 3) := by decide +kernel
theorem dX11_readLine_5 : decode cX11_readLine 5 = .ok (.iconst 1, 1) := by decide +kernel
theorem dX11_readLine_6 : decode cX11_readLine 6 = .ok (.if_icmp .ne 7, 3) := by decide +kernel
theorem dX11_readLine_9 : decode cX11_readLine 9 = .ok (.iconst 1, 1) := by decide +kernel
theorem dX11_readLine_10 : decode cX11_readLine 10 = .ok (.goto 4, 3) := by decide +kernel
theorem dX11_readLine_13 : decode cX11_readLine 13 = .ok (.iconst 0, 1) := by decide +kernel
theorem dX11_readLine_14 : decode cX11_readLine 14 = .ok (.iconst 2, 1) := by decide +kernel
theorem dX11_readLine_15 : decode cX11_readLine 15 = .ok (.invokevirtual 221, 3) := by decide +kernel
theorem dX11_readLine_18 : decode cX11_readLine 18 = .ok (.aload_n 0, 1) := by decide +kernel
theorem dX11_readLine_19 : decode cX11_readLine 19 = .ok (.getfield 189, 3) := by decide +kernel
theorem dX11_readLine_22 : decode cX11_readLine 22 = .ok (.ifCond .le 4, 3) := by decide +kernel
theorem dX11_readLine_25 : decode cX11_readLine 25 = .ok (.return_, 1) := by decide +kernel
theorem dX11_readLine_26 : decode cX11_readLine 26 = .ok (.aload_n 0, 1) := by decide +kernel
theorem dX11_readLine_27 : decode cX11_readLine 27 = .ok (.getfield 218, 3) := by decide +kernel
theorem dX11_readLine_30 : decode cX11_readLine 30 = .ok (.istore_n 1, 1) := by decide +kernel
theorem dX11_readLine_31 : decode cX11_readLine 31 = .ok (.aload_n 0, 1) := by decide +kernel
theorem dX11_readLine_32 : decode cX11_readLine 32 = .ok (.aload_n 0, 1) := by decide +kernel
theorem dX11_readLine_33 : decode cX11_readLine 33 = .ok (.getfield 66, 3) := by decide +kernel
theorem dX11_readLine_36 : decode cX11_readLine 36 = .ok (.iload_n 1, 1) := by decide +kernel
theorem dX11_readLine_37 : decode cX11_readLine 37 = .ok (.baload, 1) := by decide +kernel
theorem dX11_readLine_38 : decode cX11_readLine 38 = .ok (.ifCond .ne 7, 3) := by decide +kernel
theorem dX11_readLine_41 : decode cX11_readLine 41 = .ok (.iconst 1, 1) := by decide +kernel
theorem dX11_readLine_42 : decode cX11_readLine 42 = .ok (.goto 4, 3) := by decide +kernel
theorem dX11_readLine_45 : decode cX11_readLine 45 = .ok (.iconst 0, 1) := by decide +kernel
theorem dX11_readLine_46 : decode cX11_readLine 46 = .ok (.iconst 4, 1) := by decide +kernel
theorem dX11_readLine_47 : decode cX11_readLine 47 = .ok (.invokevirtual 221, 3) := by decide +kernel
theorem dX11_readLine_50 : decode cX11_readLine 50 = .ok (.aload_n 0, 1) := by decide +kernel
theorem dX11_readLine_51 : decode cX11_readLine 51 = .ok (.getfield 66, 3) := by decide +kernel
theorem dX11_readLine_54 : decode cX11_readLine 54 = .ok (.iload_n 1, 1) := by decide +kernel
theorem dX11_readLine_55 : decode cX11_readLine 55 = .ok (.iconst 1, 1) := by decide +kernel
theorem dX11_readLine_56 : decode cX11_readLine 56 = .ok (.bastore, 1) := by decide +kernel
theorem dX11_readLine_57 : decode cX11_readLine 57 = .ok (.aload_n 0, 1) := by decide +kernel
theorem dX11_readLine_58 : decode cX11_readLine 58 = .ok (.invokevirtual 229, 3) := by decide +kernel
theorem dX11_readLine_61 : decode cX11_readLine 61 = .ok (.iload_n 1, 1) := by decide +kernel
theorem dX11_readLine_62 : decode cX11_readLine 62 = .ok (.iconst 3, 1) := by decide +kernel
theorem dX11_readLine_63 : decode cX11_readLine 63 = .ok (.if_icmp .eq 8, 3) := by decide +kernel
theorem dX11_readLine_66 : decode cX11_readLine 66 = .ok (.iload_n 1, 1) := by decide +kernel
theorem dX11_readLine_67 : decode cX11_readLine 67 = .ok (.iconst 5, 1) := by decide +kernel
theorem dX11_readLine_68 : decode cX11_readLine 68 = .ok (.if_icmp .ne 46, 3) := by decide +kernel
theorem dX11_readLine_71 : decode cX11_readLine 71 = .ok (.aload_n 0, 1) := by decide +kernel
theorem dX11_readLine_72 : decode cX11_readLine 72 = .ok (.iload_n 1, 1) := by decide +kernel
theorem dX11_readLine_73 : decode cX11_readLine 73 = .ok (.iconst 1, 1) := by decide +kernel
theorem dX11_readLine_74 : decode cX11_readLine 74 = .ok (.bipush 100, 2) := by decide +kernel
theorem dX11_readLine_76 : decode cX11_readLine 76 = .ok (.invokevirtual 232, 3) := by decide +kernel
theorem dX11_readLine_79 : decode cX11_readLine 79 = .ok (.aload_n 0, 1) := by decide +kernel
theorem dX11_readLine_80 : decode cX11_readLine 80 = .ok (.iload_n 1, 1) := by decide +kernel
theorem dX11_readLine_81 : decode cX11_readLine 81 = .ok (.iconst 1, 1) := by decide +kernel
theorem dX11_readLine_82 : decode cX11_readLine 82 = .ok (.iadd, 1) := by decide +kernel
theorem dX11_readLine_83 : decode cX11_readLine 83 = .ok (.iload_n 1, 1) := by decide +kernel
theorem dX11_readLine_84 : decode cX11_readLine 84 = .ok (.iconst 3, 1) := by decide +kernel
theorem dX11_readLine_85 : decode cX11_readLine 85 = .ok (.if_icmp .ne 8, 3) := by decide +kernel
theorem dX11_readLine_88 : decode cX11_readLine 88 = .ok (.bipush 100, 2) := by decide +kernel
theorem dX11_readLine_90 : decode cX11_readLine 90 = .ok (.goto 5, 3) := by decide +kernel
theorem dX11_readLine_93 : decode cX11_readLine 93 = .ok (.bipush 10, 2) := by decide +kernel
theorem dX11_readLine_95 : decode cX11_readLine 95 = .ok (.iload_n 1, 1) := by decide +kernel
theorem dX11_readLine_96 : decode cX11_readLine 96 = .ok (.iconst 3, 1) := by decide +kernel
theorem dX11_readLine_97 : decode cX11_readLine 97 = .ok (.if_icmp .ne 9, 3) := by decide +kernel
theorem dX11_readLine_100 : decode cX11_readLine 100 = .ok (.sipush 400, 3) := by decide +kernel
theorem dX11_readLine_103 : decode cX11_readLine 103 = .ok (.goto 5, 3) := by decide +kernel
theorem dX11_readLine_106 : decode cX11_readLine 106 = .ok (.bipush 100, 2) := by decide +kernel
theorem dX11_readLine_108 : decode cX11_readLine 108 = .ok (.invokevirtual 232, 3) := by decide +kernel
theorem dX11_readLine_111 : decode cX11_readLine 111 = .ok (.goto 43, 3) := by decide +kernel
theorem dX11_readLine_114 : decode cX11_readLine 114 = .ok (.aload_n 0, 1) := by decide +kernel
theorem dX11_readLine_115 : decode cX11_readLine 115 = .ok (.iload_n 1, 1) := by decide +kernel
theorem dX11_readLine_116 : decode cX11_readLine 116 = .ok (.iload_n 1, 1) := by decide +kernel
theorem dX11_readLine_117 : decode cX11_readLine 117 = .ok (.bipush 7, 2) := by decide +kernel
theorem dX11_readLine_119 : decode cX11_readLine 119 = .ok (.if_icmp .ne 7, 3) := by decide +kernel
theorem dX11_readLine_122 : decode cX11_readLine 122 = .ok (.iconst 0, 1) := by decide +kernel
theorem dX11_readLine_123 : decode cX11_readLine 123 = .ok (.goto 4, 3) := by decide +kernel
theorem dX11_readLine_126 : decode cX11_readLine 126 = .ok (.iconst 1, 1) := by decide +kernel
theorem dX11_readLine_127 : decode cX11_readLine 127 = .ok (.iload_n 1, 1) := by decide +kernel
theorem dX11_readLine_128 : decode cX11_readLine 128 = .ok (.bipush 7, 2) := by decide +kernel
theorem dX11_readLine_130 : decode cX11_readLine 130 = .ok (.if_icmp .ne 8, 3) := by decide +kernel
theorem dX11_readLine_133 : decode cX11_readLine 133 = .ok (.bipush 99, 2) := by decide +kernel
theorem dX11_readLine_135 : decode cX11_readLine 135 = .ok (.goto 16, 3) := by decide +kernel
theorem dX11_readLine_138 : decode cX11_readLine 138 = .ok (.iload_n 1, 1) := by decide +kernel
theorem dX11_readLine_139 : decode cX11_readLine 139 = .ok (.bipush 8, 2) := by decide +kernel
theorem dX11_readLine_141 : decode cX11_readLine 141 = .ok (.if_icmp .ne 8, 3) := by decide +kernel
theorem dX11_readLine_144 : decode cX11_readLine 144 = .ok (.bipush 40, 2) := by decide +kernel
theorem dX11_readLine_146 : decode cX11_readLine 146 = .ok (.goto 5, 3) := by decide +kernel
theorem dX11_readLine_149 : decode cX11_readLine 149 = .ok (.bipush 64, 2) := by decide +kernel
theorem dX11_readLine_151 : decode cX11_readLine 151 = .ok (.invokevirtual 232, 3) := by decide +kernel
theorem dX11_readLine_154 : decode cX11_readLine 154 = .ok (.aload_n 0, 1) := by decide +kernel
theorem dX11_readLine_155 : decode cX11_readLine 155 = .ok (.getfield 189, 3) := by decide +kernel
theorem dX11_readLine_158 : decode cX11_readLine 158 = .ok (.ifCond .ne 21, 3) := by decide +kernel
theorem dX11_readLine_161 : decode cX11_readLine 161 = .ok (.aload_n 0, 1) := by decide +kernel
theorem dX11_readLine_162 : decode cX11_readLine 162 = .ok (.aload_n 0, 1) := by decide +kernel
theorem dX11_readLine_163 : decode cX11_readLine 163 = .ok (.getfield 208, 3) := by decide +kernel
theorem dX11_readLine_166 : decode cX11_readLine 166 = .ok (.iconst 3, 1) := by decide +kernel
theorem dX11_readLine_167 : decode cX11_readLine 167 = .ok (.if_icmp .ne 7, 3) := by decide +kernel
theorem dX11_readLine_170 : decode cX11_readLine 170 = .ok (.iconst 1, 1) := by decide +kernel
theorem dX11_readLine_171 : decode cX11_readLine 171 = .ok (.goto 4, 3) := by decide +kernel
theorem dX11_readLine_174 : decode cX11_readLine 174 = .ok (.iconst 0, 1) := by decide +kernel
theorem dX11_readLine_175 : decode cX11_readLine 175 = .ok (.iconst 2, 1) := by decide +kernel
theorem dX11_readLine_176 : decode cX11_readLine 176 = .ok (.invokevirtual 221, 3) := by decide +kernel
theorem dX11_readLine_179 : decode cX11_readLine 179 = .ok (.aload_n 0, 1) := by decide +kernel
theorem dX11_readLine_180 : decode cX11_readLine 180 = .ok (.invokevirtual 229, 3) := by decide +kernel
theorem dX11_readLine_183 : decode cX11_readLine 183 = .ok (.return_, 1) := by decide +kernel
set_option maxRecDepth 20000 in
theorem ggX11_rules_X11_firstDraft : GoodIn wsX11_rules wsX11_firstDraft := goodIn_r _ [11, 12, 4, 56, 57, 58, 59, 60, 61, 62, 63, 64, 65, 66, 67, 68, 69, 70, 71, 72, 73, 74, 75, 76, 77, 78, 79, 80, 81, 82, 83, 84, 85, 86, 87, 88, 89, 90, 91, 92, 93, 94, 95, 96, 97, 98, 99, 100, 101, 102, 103] (by decide +kernel) (by decide +kernel)
set_option maxRecDepth 20000 in
theorem gX11_rules_X11_firstDraft : GoodIn wsX11_rules (wsV RX11 97 RX11 yX11_firstDraft wsX11_firstDraft) := goodIn_app (goodIn_of _ (by decide +kernel)) ggX11_rules_X11_firstDraft
set_option maxRecDepth 20000 in
theorem ggX11_rules_X11_next : GoodIn wsX11_rules wsX11_next := goodIn_r _ [16, 1, 2, 17, 3, 18, 19, 20, 21, 22, 23, 24, 25, 10, 26, 5, 27, 28, 29, 30, 31, 32, 33, 34, 35, 36, 37, 38, 39, 40, 41, 42, 6, 56, 57, 58, 59, 60, 61, 62, 63, 64, 65, 66, 67, 68, 69, 70, 71, 72, 73, 74, 75, 76, 77, 78, 79, 80, 81, 82, 83, 84, 85, 86, 87, 88, 89, 90, 91, 92, 93, 94, 95, 96, 97, 98, 99, 100, 101, 102, 103] (by decide +kernel) (by decide +kernel)
set_option maxRecDepth 20000 in
theorem gX11_rules_X11_next : GoodIn wsX11_rules (wsV RX11 229 RX11 yX11_next wsX11_next) := goodIn_app (goodIn_of _ (by decide +kernel)) ggX11_rules_X11_next
set_option maxRecDepth 20000 in
theorem ggX11_rules_X11_readLine : GoodIn wsX11_rules wsX11_readLine := goodIn_r _ [46, 3, 1, 20, 12, 39, 40, 41, 10, 42, 17, 6, 13, 14, 15, 16, 2, 18, 19, 21, 22, 23, 24, 25, 26, 5, 27, 28, 29, 30, 31, 32, 33, 34, 35, 36, 37, 38, 47, 48, 49, 50, 4, 56, 57, 58, 59, 60, 61, 62, 63, 64, 65, 66, 67, 68, 69, 70, 71, 72, 73, 74, 75, 76, 77, 78, 79, 80, 81, 82, 83, 84, 85, 86, 87, 88, 89, 90, 91, 92, 93, 94, 95, 96, 97, 98, 99, 100, 101, 102, 103] (by decide +kernel) (by decide +kernel)
set_option maxRecDepth 20000 in
theorem gX11_rules_X11_readLine : GoodIn wsX11_rules (wsV RX11 236 RX11 yX11_readLine wsX11_readLine) := goodIn_app (goodIn_of _ (by decide +kernel)) ggX11_rules_X11_readLine
set_option maxRecDepth 20000 in
theorem ggX11_rules_X11_keepDraft : GoodIn wsX11_rules wsX11_keepDraft := goodIn_r _ [54, 55, 4, 56, 57, 58, 59, 60, 61, 62, 63, 64, 65, 66, 67, 68, 69, 70, 71, 72, 73, 74, 75, 76, 77, 78, 79, 80, 81, 82, 83, 84, 85, 86, 87, 88, 89, 90, 91, 92, 93, 94, 95, 96, 97, 98, 99, 100, 101, 102, 103] (by decide +kernel) (by decide +kernel)
set_option maxRecDepth 20000 in
theorem gX11_rules_X11_keepDraft : GoodIn wsX11_rules (wsV RX11 100 RX11 yX11_keepDraft wsX11_keepDraft) := goodIn_app (goodIn_of _ (by decide +kernel)) ggX11_rules_X11_keepDraft
theorem dX11_rules_0 : decode cX11_rules 0 = .ok (.iconst 0, 1) := by decide +kernel
theorem dX11_rules_1 : decode cX11_rules 1 = .ok (.istore_n 1, 1) := by decide +kernel
theorem dX11_rules_2 : decode cX11_rules 2 = .ok (.aload_n 0, 1) := by decide +kernel
theorem dX11_rules_3 : decode cX11_rules 3 = .ok (.iconst 0, 1) := by decide +kernel
theorem dX11_rules_4 : decode cX11_rules 4 = .ok (.putfield 189, 3) := by decide +kernel
theorem dX11_rules_7 : decode cX11_rules 7 = .ok (.aload_n 0, 1) := by decide +kernel
theorem dX11_rules_8 : decode cX11_rules 8 = .ok (.iconst 0, 1) := by decide +kernel
theorem dX11_rules_9 : decode cX11_rules 9 = .ok (.putfield 198, 3) := by decide +kernel
theorem dX11_rules_12 : decode cX11_rules 12 = .ok (.aload_n 0, 1) := by decide +kernel
theorem dX11_rules_13 : decode cX11_rules 13 = .ok (.invokevirtual 97, 3) := by decide +kernel
theorem dX11_rules_16 : decode cX11_rules 16 = .ok (.aload_n 0, 1) := by decide +kernel
theorem dX11_rules_17 : decode cX11_rules 17 = .ok (.invokevirtual 229, 3) := by decide +kernel
theorem dX11_rules_20 : decode cX11_rules 20 = .ok (.aload_n 0, 1) := by decide +kernel
theorem dX11_rules_21 : decode cX11_rules 21 = .ok (.getfield 189, 3) := by decide +kernel
theorem dX11_rules_24 : decode cX11_rules 24 = .ok (.ifCond .ne 20, 3) := by decide +kernel
theorem dX11_rules_27 : decode cX11_rules 27 = .ok (.aload_n 0, 1) := by decide +kernel
theorem dX11_rules_28 : decode cX11_rules 28 = .ok (.getfield 208, 3) := by decide +kernel
theorem dX11_rules_31 : decode cX11_rules 31 = .ok (.ifCond .eq 13, 3) := by decide +kernel
theorem dX11_rules_34 : decode cX11_rules 34 = .ok (.aload_n 0, 1) := by decide +kernel
theorem dX11_rules_35 : decode cX11_rules 35 = .ok (.invokevirtual 236, 3) := by decide +kernel
theorem dX11_rules_38 : decode cX11_rules 38 = .ok (.iinc 1 1, 3) := by decide +kernel
theorem dX11_rules_41 : decode cX11_rules 41 = .ok (.goto (-21), 3) := by decide +kernel
theorem dX11_rules_44 : decode cX11_rules 44 = .ok (.aload_n 0, 1) := by decide +kernel
theorem dX11_rules_45 : decode cX11_rules 45 = .ok (.getfield 189, 3) := by decide +kernel
theorem dX11_rules_48 : decode cX11_rules 48 = .ok (.ifCond .ne 31, 3) := by decide +kernel
theorem dX11_rules_51 : decode cX11_rules 51 = .ok (.aload_n 0, 1) := by decide +kernel
theorem dX11_rules_52 : decode cX11_rules 52 = .ok (.getfield 63, 3) := by decide +kernel
theorem dX11_rules_55 : decode cX11_rules 55 = .ok (.iconst 1, 1) := by decide +kernel
theorem dX11_rules_56 : decode cX11_rules 56 = .ok (.iaload, 1) := by decide +kernel
theorem dX11_rules_57 : decode cX11_rules 57 = .ok (.aload_n 0, 1) := by decide +kernel
theorem dX11_rules_58 : decode cX11_rules 58 = .ok (.getfield 63, 3) := by decide +kernel
theorem dX11_rules_61 : decode cX11_rules 61 = .ok (.iconst 2, 1) := by decide +kernel
theorem dX11_rules_62 : decode cX11_rules 62 = .ok (.iaload, 1) := by decide +kernel
theorem dX11_rules_63 : decode cX11_rules 63 = .ok (.if_icmp .le 16, 3) := by decide +kernel
theorem dX11_rules_66 : decode cX11_rules 66 = .ok (.aload_n 0, 1) := by decide +kernel
theorem dX11_rules_67 : decode cX11_rules 67 = .ok (.iconst 5, 1) := by decide +kernel
theorem dX11_rules_68 : decode cX11_rules 68 = .ok (.putfield 189, 3) := by decide +kernel
theorem dX11_rules_71 : decode cX11_rules 71 = .ok (.aload_n 0, 1) := by decide +kernel
theorem dX11_rules_72 : decode cX11_rules 72 = .ok (.aload_n 0, 1) := by decide +kernel
theorem dX11_rules_73 : decode cX11_rules 73 = .ok (.getfield 184, 3) := by decide +kernel
theorem dX11_rules_76 : decode cX11_rules 76 = .ok (.putfield 195, 3) := by decide +kernel
theorem dX11_rules_79 : decode cX11_rules 79 = .ok (.aload_n 0, 1) := by decide +kernel
theorem dX11_rules_80 : decode cX11_rules 80 = .ok (.iconst 0, 1) := by decide +kernel
theorem dX11_rules_81 : decode cX11_rules 81 = .ok (.putfield 184, 3) := by decide +kernel
theorem dX11_rules_84 : decode cX11_rules 84 = .ok (.aload_n 0, 1) := by decide +kernel
theorem dX11_rules_85 : decode cX11_rules 85 = .ok (.getfield 189, 3) := by decide +kernel
theorem dX11_rules_88 : decode cX11_rules 88 = .ok (.ifCond .le 11, 3) := by decide +kernel
theorem dX11_rules_91 : decode cX11_rules 91 = .ok (.bipush (-10), 2) := by decide +kernel
theorem dX11_rules_93 : decode cX11_rules 93 = .ok (.aload_n 0, 1) := by decide +kernel
theorem dX11_rules_94 : decode cX11_rules 94 = .ok (.getfield 195, 3) := by decide +kernel
theorem dX11_rules_97 : decode cX11_rules 97 = .ok (.isub, 1) := by decide +kernel
theorem dX11_rules_98 : decode cX11_rules 98 = .ok (.ireturn, 1) := by decide +kernel
theorem dX11_rules_99 : decode cX11_rules 99 = .ok (.aload_n 0, 1) := by decide +kernel
theorem dX11_rules_100 : decode cX11_rules 100 = .ok (.invokevirtual 100, 3) := by decide +kernel
theorem dX11_rules_103 : decode cX11_rules 103 = .ok (.iload_n 1, 1) := by decide +kernel
theorem dX11_rules_104 : decode cX11_rules 104 = .ok (.ireturn, 1) := by decide +kernel
theorem dX11_fault_0 : decode cX11_fault 0 = .ok (.aload_n 0, 1) := by decide +kernel
theorem dX11_fault_1 : decode cX11_fault 1 = .ok (.getfield 189, 3) := by decide +kernel
theorem dX11_fault_4 : decode cX11_fault 4 = .ok (.ireturn, 1) := by decide +kernel
set_option maxRecDepth 20000 in
theorem ggX11_rule_X11_in : GoodIn wsX11_rule wsX11_in := goodIn_r _ [6] (by decide +kernel) (by decide +kernel)
set_option maxRecDepth 20000 in
theorem gX11_rule_X11_in : GoodIn wsX11_rule (va_wsS RX11 103 yX11_in wsX11_in) := goodIn_app (goodIn_of _ (by decide +kernel)) ggX11_rule_X11_in
theorem dX11_rule_0 : decode cX11_rule 0 = .ok (.iload_n 1, 1) := by decide +kernel
theorem dX11_rule_1 : decode cX11_rule 1 = .ok (.i2l, 1) := by decide +kernel
theorem dX11_rule_2 : decode cX11_rule 2 = .ok (.lconst 0, 1) := by decide +kernel
theorem dX11_rule_3 : decode cX11_rule 3 = .ok (.ldc2_w 239, 3) := by decide +kernel
theorem dX11_rule_6 : decode cX11_rule 6 = .ok (.invokestatic 103, 3) := by decide +kernel
theorem dX11_rule_9 : decode cX11_rule 9 = .ok (.ifCond .eq 12, 3) := by decide +kernel
theorem dX11_rule_12 : decode cX11_rule 12 = .ok (.aload_n 0, 1) := by decide +kernel
theorem dX11_rule_13 : decode cX11_rule 13 = .ok (.getfield 60, 3) := by decide +kernel
theorem dX11_rule_16 : decode cX11_rule 16 = .ok (.iload_n 1, 1) := by decide +kernel
theorem dX11_rule_17 : decode cX11_rule 17 = .ok (.iaload, 1) := by decide +kernel
theorem dX11_rule_18 : decode cX11_rule 18 = .ok (.goto 4, 3) := by decide +kernel
theorem dX11_rule_21 : decode cX11_rule 21 = .ok (.iconst (-1), 1) := by decide +kernel
theorem dX11_rule_22 : decode cX11_rule 22 = .ok (.ireturn, 1) := by decide +kernel
theorem dX11_slotOf_0 : decode cX11_slotOf 0 = .ok (.iload_n 3, 1) := by decide +kernel
theorem dX11_slotOf_1 : decode cX11_slotOf 1 = .ok (.ldc 241, 2) := by decide +kernel
theorem dX11_slotOf_3 : decode cX11_slotOf 3 = .ok (.iload_n 1, 1) := by decide +kernel
theorem dX11_slotOf_4 : decode cX11_slotOf 4 = .ok (.imul, 1) := by decide +kernel
theorem dX11_slotOf_5 : decode cX11_slotOf 5 = .ok (.iadd, 1) := by decide +kernel
theorem dX11_slotOf_6 : decode cX11_slotOf 6 = .ok (.istore 4, 2) := by decide +kernel
theorem dX11_slotOf_8 : decode cX11_slotOf 8 = .ok (.iload 4, 2) := by decide +kernel
theorem dX11_slotOf_10 : decode cX11_slotOf 10 = .ok (.ldc 242, 2) := by decide +kernel
theorem dX11_slotOf_12 : decode cX11_slotOf 12 = .ok (.imul, 1) := by decide +kernel
theorem dX11_slotOf_13 : decode cX11_slotOf 13 = .ok (.sipush 12345, 3) := by decide +kernel
theorem dX11_slotOf_16 : decode cX11_slotOf 16 = .ok (.iadd, 1) := by decide +kernel
theorem dX11_slotOf_17 : decode cX11_slotOf 17 = .ok (.bipush 16, 2) := by decide +kernel
theorem dX11_slotOf_19 : decode cX11_slotOf 19 = .ok (.ishr, 1) := by decide +kernel
theorem dX11_slotOf_20 : decode cX11_slotOf 20 = .ok (.sipush 32767, 3) := by decide +kernel
theorem dX11_slotOf_23 : decode cX11_slotOf 23 = .ok (.iand, 1) := by decide +kernel
theorem dX11_slotOf_24 : decode cX11_slotOf 24 = .ok (.iload_n 2, 1) := by decide +kernel
theorem dX11_slotOf_25 : decode cX11_slotOf 25 = .ok (.irem, 1) := by decide +kernel
theorem dX11_slotOf_26 : decode cX11_slotOf 26 = .ok (.ireturn, 1) := by decide +kernel
set_option maxRecDepth 20000 in
theorem ggX11_isFrame_X11_in : GoodIn wsX11_isFrame wsX11_in := goodIn_r _ [5] (by decide +kernel) (by decide +kernel)
set_option maxRecDepth 20000 in
theorem gX11_isFrame_X11_in : GoodIn wsX11_isFrame (va_wsS RX11 103 yX11_in wsX11_in) := goodIn_app (goodIn_of _ (by decide +kernel)) ggX11_isFrame_X11_in
theorem dX11_isFrame_0 : decode cX11_isFrame 0 = .ok (.iload_n 0, 1) := by decide +kernel
theorem dX11_isFrame_1 : decode cX11_isFrame 1 = .ok (.i2l, 1) := by decide +kernel
theorem dX11_isFrame_2 : decode cX11_isFrame 2 = .ok (.lconst 1, 1) := by decide +kernel
theorem dX11_isFrame_3 : decode cX11_isFrame 3 = .ok (.ldc2_w 243, 3) := by decide +kernel
theorem dX11_isFrame_6 : decode cX11_isFrame 6 = .ok (.invokestatic 103, 3) := by decide +kernel
theorem dX11_isFrame_9 : decode cX11_isFrame 9 = .ok (.ireturn, 1) := by decide +kernel
set_option maxRecDepth 20000 in
theorem ggX11_slot_X11_isNumber : GoodIn wsX11_slot wsX11_isNumber := goodIn_r _ [5, 6, 7, 8, 4, 9, 20, 21, 22, 23, 24, 25, 26, 27, 28, 29, 30, 31, 32, 33, 34, 35, 36, 37, 38, 39, 40, 41, 42, 43, 44, 45, 46, 47, 48, 49, 50, 51, 52, 53, 54, 55, 56, 57, 58, 59, 60, 61, 62, 63, 64, 65, 66, 67] (by decide +kernel) (by decide +kernel)
set_option maxRecDepth 20000 in
theorem gX11_slot_X11_isNumber : GoodIn wsX11_slot (wsV RX11 124 RX11 yX11_isNumber wsX11_isNumber) := goodIn_app (goodIn_of _ (by decide +kernel)) ggX11_slot_X11_isNumber
set_option maxRecDepth 20000 in
theorem ggX11_slot_X11_isFrame : GoodIn wsX11_slot wsX11_isFrame := goodIn_r _ [12, 13, 7, 8, 4, 9] (by decide +kernel) (by decide +kernel)
set_option maxRecDepth 20000 in
theorem gX11_slot_X11_isFrame : GoodIn wsX11_slot (va_wsS RX11 245 yX11_isFrame wsX11_isFrame) := goodIn_app (goodIn_of _ (by decide +kernel)) ggX11_slot_X11_isFrame
set_option maxRecDepth 20000 in
theorem ggX11_slot_X11_slotOf : GoodIn wsX11_slot wsX11_slotOf := goodIn_r _ [17, 18, 19] (by decide +kernel) (by decide +kernel)
set_option maxRecDepth 20000 in
theorem gX11_slot_X11_slotOf : GoodIn wsX11_slot (wsV RX11 248 RX11 yX11_slotOf wsX11_slotOf) := goodIn_app (goodIn_of _ (by decide +kernel)) ggX11_slot_X11_slotOf
theorem dX11_slot_0 : decode cX11_slot 0 = .ok (.aload_n 0, 1) := by decide +kernel
theorem dX11_slot_1 : decode cX11_slot 1 = .ok (.iload_n 1, 1) := by decide +kernel
theorem dX11_slot_2 : decode cX11_slot 2 = .ok (.invokevirtual 124, 3) := by decide +kernel
theorem dX11_slot_5 : decode cX11_slot 5 = .ok (.ifCond .eq 20, 3) := by decide +kernel
theorem dX11_slot_8 : decode cX11_slot 8 = .ok (.iload_n 2, 1) := by decide +kernel
theorem dX11_slot_9 : decode cX11_slot 9 = .ok (.invokestatic 245, 3) := by decide +kernel
theorem dX11_slot_12 : decode cX11_slot 12 = .ok (.ifCond .eq 13, 3) := by decide +kernel
theorem dX11_slot_15 : decode cX11_slot 15 = .ok (.aload_n 0, 1) := by decide +kernel
theorem dX11_slot_16 : decode cX11_slot 16 = .ok (.iload_n 1, 1) := by decide +kernel
theorem dX11_slot_17 : decode cX11_slot 17 = .ok (.iload_n 2, 1) := by decide +kernel
theorem dX11_slot_18 : decode cX11_slot 18 = .ok (.iload_n 3, 1) := by decide +kernel
theorem dX11_slot_19 : decode cX11_slot 19 = .ok (.invokevirtual 248, 3) := by decide +kernel
theorem dX11_slot_22 : decode cX11_slot 22 = .ok (.goto 4, 3) := by decide +kernel
theorem dX11_slot_25 : decode cX11_slot 25 = .ok (.iconst (-1), 1) := by decide +kernel
theorem dX11_slot_26 : decode cX11_slot 26 = .ok (.ireturn, 1) := by decide +kernel
set_option maxRecDepth 20000 in
theorem ggX11_readIn_X11_slotOf : GoodIn wsX11_readIn wsX11_slotOf := goodIn_r _ [11, 12, 13] (by decide +kernel) (by decide +kernel)
set_option maxRecDepth 20000 in
theorem gX11_readIn_X11_slotOf : GoodIn wsX11_readIn (wsV RX11 248 RX11 yX11_slotOf wsX11_slotOf) := goodIn_app (goodIn_of _ (by decide +kernel)) ggX11_readIn_X11_slotOf
set_option maxRecDepth 20000 in
theorem ggX11_readIn_X11_flag : GoodIn wsX11_readIn wsX11_flag := goodIn_r _ [16] (by decide +kernel) (by decide +kernel)
set_option maxRecDepth 20000 in
theorem gX11_readIn_X11_flag : GoodIn wsX11_readIn (va_wsS RX11 140 yX11_flag wsX11_flag) := goodIn_app (goodIn_of _ (by decide +kernel)) ggX11_readIn_X11_flag
theorem dX11_readIn_0 : decode cX11_readIn 0 = .ok (.bipush (-4), 2) := by decide +kernel
theorem dX11_readIn_2 : decode cX11_readIn 2 = .ok (.istore 4, 2) := by decide +kernel
theorem dX11_readIn_4 : decode cX11_readIn 4 = .ok (.bipush (-4), 2) := by decide +kernel
theorem dX11_readIn_6 : decode cX11_readIn 6 = .ok (.istore 5, 2) := by decide +kernel
theorem dX11_readIn_8 : decode cX11_readIn 8 = .ok (.iconst 0, 1) := by decide +kernel
theorem dX11_readIn_9 : decode cX11_readIn 9 = .ok (.istore 6, 2) := by decide +kernel
theorem dX11_readIn_11 : decode cX11_readIn 11 = .ok (.iload 6, 2) := by decide +kernel
theorem dX11_readIn_13 : decode cX11_readIn 13 = .ok (.aload_n 0, 1) := by decide +kernel
theorem dX11_readIn_14 : decode cX11_readIn 14 = .ok (.getfield 107, 3) := by decide +kernel
theorem dX11_readIn_17 : decode cX11_readIn 17 = .ok (.if_icmp .ge 124, 3) := by decide +kernel
theorem dX11_readIn_20 : decode cX11_readIn 20 = .ok (.aload_n 0, 1) := by decide +kernel
theorem dX11_readIn_21 : decode cX11_readIn 21 = .ok (.getfield 51, 3) := by decide +kernel
theorem dX11_readIn_24 : decode cX11_readIn 24 = .ok (.iload 6, 2) := by decide +kernel
theorem dX11_readIn_26 : decode cX11_readIn 26 = .ok (.baload, 1) := by decide +kernel
theorem dX11_readIn_27 : decode cX11_readIn 27 = .ok (.ifCond .ne 108, 3) := by decide +kernel
theorem dX11_readIn_30 : decode cX11_readIn 30 = .ok (.aload_n 0, 1) := by decide +kernel
theorem dX11_readIn_31 : decode cX11_readIn 31 = .ok (.aload_n 0, 1) := by decide +kernel
theorem dX11_readIn_32 : decode cX11_readIn 32 = .ok (.getfield 13, 3) := by decide +kernel
theorem dX11_readIn_35 : decode cX11_readIn 35 = .ok (.iload 6, 2) := by decide +kernel
theorem dX11_readIn_37 : decode cX11_readIn 37 = .ok (.iaload, 1) := by decide +kernel
theorem dX11_readIn_38 : decode cX11_readIn 38 = .ok (.iload_n 2, 1) := by decide +kernel
theorem dX11_readIn_39 : decode cX11_readIn 39 = .ok (.iload_n 3, 1) := by decide +kernel
theorem dX11_readIn_40 : decode cX11_readIn 40 = .ok (.invokevirtual 248, 3) := by decide +kernel
theorem dX11_readIn_43 : decode cX11_readIn 43 = .ok (.iload_n 1, 1) := by decide +kernel
theorem dX11_readIn_44 : decode cX11_readIn 44 = .ok (.if_icmp .ne 91, 3) := by decide +kernel
theorem dX11_readIn_47 : decode cX11_readIn 47 = .ok (.iload 4, 2) := by decide +kernel
theorem dX11_readIn_49 : decode cX11_readIn 49 = .ok (.bipush (-4), 2) := by decide +kernel
theorem dX11_readIn_51 : decode cX11_readIn 51 = .ok (.if_icmp .eq 20, 3) := by decide +kernel
theorem dX11_readIn_54 : decode cX11_readIn 54 = .ok (.aload_n 0, 1) := by decide +kernel
theorem dX11_readIn_55 : decode cX11_readIn 55 = .ok (.getfield 17, 3) := by decide +kernel
theorem dX11_readIn_58 : decode cX11_readIn 58 = .ok (.iload 6, 2) := by decide +kernel
theorem dX11_readIn_60 : decode cX11_readIn 60 = .ok (.iaload, 1) := by decide +kernel
theorem dX11_readIn_61 : decode cX11_readIn 61 = .ok (.aload_n 0, 1) := by decide +kernel
theorem dX11_readIn_62 : decode cX11_readIn 62 = .ok (.getfield 17, 3) := by decide +kernel
theorem dX11_readIn_65 : decode cX11_readIn 65 = .ok (.iload 4, 2) := by decide +kernel
theorem dX11_readIn_67 : decode cX11_readIn 67 = .ok (.iaload, 1) := by decide +kernel
theorem dX11_readIn_68 : decode cX11_readIn 68 = .ok (.if_icmp .le 7, 3) := by decide +kernel
theorem dX11_readIn_71 : decode cX11_readIn 71 = .ok (.iconst 1, 1) := by decide +kernel
theorem dX11_readIn_72 : decode cX11_readIn 72 = .ok (.goto 4, 3) := by decide +kernel
theorem dX11_readIn_75 : decode cX11_readIn 75 = .ok (.iconst 0, 1) := by decide +kernel
theorem dX11_readIn_76 : decode cX11_readIn 76 = .ok (.istore 7, 2) := by decide +kernel
theorem dX11_readIn_78 : decode cX11_readIn 78 = .ok (.iload 7, 2) := by decide +kernel
theorem dX11_readIn_80 : decode cX11_readIn 80 = .ok (.ifCond .eq 8, 3) := by decide +kernel
theorem dX11_readIn_83 : decode cX11_readIn 83 = .ok (.iload 4, 2) := by decide +kernel
theorem dX11_readIn_85 : decode cX11_readIn 85 = .ok (.goto 34, 3) := by decide +kernel
theorem dX11_readIn_88 : decode cX11_readIn 88 = .ok (.iload 5, 2) := by decide +kernel
theorem dX11_readIn_90 : decode cX11_readIn 90 = .ok (.bipush (-4), 2) := by decide +kernel
theorem dX11_readIn_92 : decode cX11_readIn 92 = .ok (.if_icmp .eq 20, 3) := by decide +kernel
theorem dX11_readIn_95 : decode cX11_readIn 95 = .ok (.aload_n 0, 1) := by decide +kernel
theorem dX11_readIn_96 : decode cX11_readIn 96 = .ok (.getfield 17, 3) := by decide +kernel
theorem dX11_readIn_99 : decode cX11_readIn 99 = .ok (.iload 6, 2) := by decide +kernel
theorem dX11_readIn_101 : decode cX11_readIn 101 = .ok (.iaload, 1) := by decide +kernel
theorem dX11_readIn_102 : decode cX11_readIn 102 = .ok (.aload_n 0, 1) := by decide +kernel
theorem dX11_readIn_103 : decode cX11_readIn 103 = .ok (.getfield 17, 3) := by decide +kernel
theorem dX11_readIn_106 : decode cX11_readIn 106 = .ok (.iload 5, 2) := by decide +kernel
theorem dX11_readIn_108 : decode cX11_readIn 108 = .ok (.iaload, 1) := by decide +kernel
theorem dX11_readIn_109 : decode cX11_readIn 109 = .ok (.if_icmp .le 8, 3) := by decide +kernel
theorem dX11_readIn_112 : decode cX11_readIn 112 = .ok (.iload 6, 2) := by decide +kernel
theorem dX11_readIn_114 : decode cX11_readIn 114 = .ok (.goto 5, 3) := by decide +kernel
theorem dX11_readIn_117 : decode cX11_readIn 117 = .ok (.iload 5, 2) := by decide +kernel
theorem dX11_readIn_119 : decode cX11_readIn 119 = .ok (.istore 5, 2) := by decide +kernel
theorem dX11_readIn_121 : decode cX11_readIn 121 = .ok (.iload 7, 2) := by decide +kernel
theorem dX11_readIn_123 : decode cX11_readIn 123 = .ok (.ifCond .eq 8, 3) := by decide +kernel
theorem dX11_readIn_126 : decode cX11_readIn 126 = .ok (.iload 6, 2) := by decide +kernel
theorem dX11_readIn_128 : decode cX11_readIn 128 = .ok (.goto 5, 3) := by decide +kernel
theorem dX11_readIn_131 : decode cX11_readIn 131 = .ok (.iload 4, 2) := by decide +kernel
theorem dX11_readIn_133 : decode cX11_readIn 133 = .ok (.istore 4, 2) := by decide +kernel
theorem dX11_readIn_135 : decode cX11_readIn 135 = .ok (.iinc 6 1, 3) := by decide +kernel
theorem dX11_readIn_138 : decode cX11_readIn 138 = .ok (.goto (-127), 3) := by decide +kernel
theorem dX11_readIn_141 : decode cX11_readIn 141 = .ok (.iload 5, 2) := by decide +kernel
theorem dX11_readIn_143 : decode cX11_readIn 143 = .ok (.bipush (-4), 2) := by decide +kernel
theorem dX11_readIn_145 : decode cX11_readIn 145 = .ok (.if_icmp .eq 42, 3) := by decide +kernel
theorem dX11_readIn_148 : decode cX11_readIn 148 = .ok (.aload_n 0, 1) := by decide +kernel
theorem dX11_readIn_149 : decode cX11_readIn 149 = .ok (.getfield 60, 3) := by decide +kernel
theorem dX11_readIn_152 : decode cX11_readIn 152 = .ok (.bipush 7, 2) := by decide +kernel
theorem dX11_readIn_154 : decode cX11_readIn 154 = .ok (.iaload, 1) := by decide +kernel
theorem dX11_readIn_155 : decode cX11_readIn 155 = .ok (.ifCond .le 32, 3) := by decide +kernel
theorem dX11_readIn_158 : decode cX11_readIn 158 = .ok (.aload_n 0, 1) := by decide +kernel
theorem dX11_readIn_159 : decode cX11_readIn 159 = .ok (.getfield 17, 3) := by decide +kernel
theorem dX11_readIn_162 : decode cX11_readIn 162 = .ok (.iload 4, 2) := by decide +kernel
theorem dX11_readIn_164 : decode cX11_readIn 164 = .ok (.iaload, 1) := by decide +kernel
theorem dX11_readIn_165 : decode cX11_readIn 165 = .ok (.aload_n 0, 1) := by decide +kernel
theorem dX11_readIn_166 : decode cX11_readIn 166 = .ok (.getfield 17, 3) := by decide +kernel
theorem dX11_readIn_169 : decode cX11_readIn 169 = .ok (.iload 5, 2) := by decide +kernel
theorem dX11_readIn_171 : decode cX11_readIn 171 = .ok (.iaload, 1) := by decide +kernel
theorem dX11_readIn_172 : decode cX11_readIn 172 = .ok (.isub, 1) := by decide +kernel
theorem dX11_readIn_173 : decode cX11_readIn 173 = .ok (.aload_n 0, 1) := by decide +kernel
theorem dX11_readIn_174 : decode cX11_readIn 174 = .ok (.getfield 60, 3) := by decide +kernel
theorem dX11_readIn_177 : decode cX11_readIn 177 = .ok (.bipush 7, 2) := by decide +kernel
theorem dX11_readIn_179 : decode cX11_readIn 179 = .ok (.iaload, 1) := by decide +kernel
theorem dX11_readIn_180 : decode cX11_readIn 180 = .ok (.if_icmp .lt 7, 3) := by decide +kernel
theorem dX11_readIn_183 : decode cX11_readIn 183 = .ok (.iconst 1, 1) := by decide +kernel
theorem dX11_readIn_184 : decode cX11_readIn 184 = .ok (.goto 4, 3) := by decide +kernel
theorem dX11_readIn_187 : decode cX11_readIn 187 = .ok (.iconst 0, 1) := by decide +kernel
theorem dX11_readIn_188 : decode cX11_readIn 188 = .ok (.istore 6, 2) := by decide +kernel
theorem dX11_readIn_190 : decode cX11_readIn 190 = .ok (.aload_n 0, 1) := by decide +kernel
theorem dX11_readIn_191 : decode cX11_readIn 191 = .ok (.getfield 72, 3) := by decide +kernel
theorem dX11_readIn_194 : decode cX11_readIn 194 = .ok (.iconst 1, 1) := by decide +kernel
theorem dX11_readIn_195 : decode cX11_readIn 195 = .ok (.dup2, 1) := by decide +kernel
theorem dX11_readIn_196 : decode cX11_readIn 196 = .ok (.iaload, 1) := by decide +kernel
theorem dX11_readIn_197 : decode cX11_readIn 197 = .ok (.iload 4, 2) := by decide +kernel
theorem dX11_readIn_199 : decode cX11_readIn 199 = .ok (.bipush (-4), 2) := by decide +kernel
theorem dX11_readIn_201 : decode cX11_readIn 201 = .ok (.if_icmp .ne 7, 3) := by decide +kernel
theorem dX11_readIn_204 : decode cX11_readIn 204 = .ok (.iconst 1, 1) := by decide +kernel
theorem dX11_readIn_205 : decode cX11_readIn 205 = .ok (.goto 4, 3) := by decide +kernel
theorem dX11_readIn_208 : decode cX11_readIn 208 = .ok (.iconst 0, 1) := by decide +kernel
theorem dX11_readIn_209 : decode cX11_readIn 209 = .ok (.invokestatic 140, 3) := by decide +kernel
theorem dX11_readIn_212 : decode cX11_readIn 212 = .ok (.iadd, 1) := by decide +kernel
theorem dX11_readIn_213 : decode cX11_readIn 213 = .ok (.iastore, 1) := by decide +kernel
theorem dX11_readIn_214 : decode cX11_readIn 214 = .ok (.aload_n 0, 1) := by decide +kernel
theorem dX11_readIn_215 : decode cX11_readIn 215 = .ok (.getfield 72, 3) := by decide +kernel
theorem dX11_readIn_218 : decode cX11_readIn 218 = .ok (.iconst 2, 1) := by decide +kernel
theorem dX11_readIn_219 : decode cX11_readIn 219 = .ok (.dup2, 1) := by decide +kernel
theorem dX11_readIn_220 : decode cX11_readIn 220 = .ok (.iaload, 1) := by decide +kernel
theorem dX11_readIn_221 : decode cX11_readIn 221 = .ok (.iload 4, 2) := by decide +kernel
theorem dX11_readIn_223 : decode cX11_readIn 223 = .ok (.bipush (-4), 2) := by decide +kernel
theorem dX11_readIn_225 : decode cX11_readIn 225 = .ok (.if_icmp .eq 14, 3) := by decide +kernel
theorem dX11_readIn_228 : decode cX11_readIn 228 = .ok (.iload 5, 2) := by decide +kernel
theorem dX11_readIn_230 : decode cX11_readIn 230 = .ok (.bipush (-4), 2) := by decide +kernel
theorem dX11_readIn_232 : decode cX11_readIn 232 = .ok (.if_icmp .ne 7, 3) := by decide +kernel
theorem dX11_readIn_235 : decode cX11_readIn 235 = .ok (.iconst 1, 1) := by decide +kernel
theorem dX11_readIn_236 : decode cX11_readIn 236 = .ok (.goto 4, 3) := by decide +kernel
theorem dX11_readIn_239 : decode cX11_readIn 239 = .ok (.iconst 0, 1) := by decide +kernel
theorem dX11_readIn_240 : decode cX11_readIn 240 = .ok (.invokestatic 140, 3) := by decide +kernel
theorem dX11_readIn_243 : decode cX11_readIn 243 = .ok (.iadd, 1) := by decide +kernel
theorem dX11_readIn_244 : decode cX11_readIn 244 = .ok (.iastore, 1) := by decide +kernel
theorem dX11_readIn_245 : decode cX11_readIn 245 = .ok (.aload_n 0, 1) := by decide +kernel
theorem dX11_readIn_246 : decode cX11_readIn 246 = .ok (.getfield 72, 3) := by decide +kernel
theorem dX11_readIn_249 : decode cX11_readIn 249 = .ok (.iconst 3, 1) := by decide +kernel
theorem dX11_readIn_250 : decode cX11_readIn 250 = .ok (.dup2, 1) := by decide +kernel
theorem dX11_readIn_251 : decode cX11_readIn 251 = .ok (.iaload, 1) := by decide +kernel
theorem dX11_readIn_252 : decode cX11_readIn 252 = .ok (.iload 5, 2) := by decide +kernel
theorem dX11_readIn_254 : decode cX11_readIn 254 = .ok (.bipush (-4), 2) := by decide +kernel
theorem dX11_readIn_256 : decode cX11_readIn 256 = .ok (.if_icmp .eq 12, 3) := by decide +kernel
theorem dX11_readIn_259 : decode cX11_readIn 259 = .ok (.iload 6, 2) := by decide +kernel
theorem dX11_readIn_261 : decode cX11_readIn 261 = .ok (.ifCond .ne 7, 3) := by decide +kernel
theorem dX11_readIn_264 : decode cX11_readIn 264 = .ok (.iconst 1, 1) := by decide +kernel
theorem dX11_readIn_265 : decode cX11_readIn 265 = .ok (.goto 4, 3) := by decide +kernel
theorem dX11_readIn_268 : decode cX11_readIn 268 = .ok (.iconst 0, 1) := by decide +kernel
theorem dX11_readIn_269 : decode cX11_readIn 269 = .ok (.invokestatic 140, 3) := by decide +kernel
theorem dX11_readIn_272 : decode cX11_readIn 272 = .ok (.iadd, 1) := by decide +kernel
theorem dX11_readIn_273 : decode cX11_readIn 273 = .ok (.iastore, 1) := by decide +kernel
theorem dX11_readIn_274 : decode cX11_readIn 274 = .ok (.aload_n 0, 1) := by decide +kernel
theorem dX11_readIn_275 : decode cX11_readIn 275 = .ok (.getfield 72, 3) := by decide +kernel
theorem dX11_readIn_278 : decode cX11_readIn 278 = .ok (.iconst 4, 1) := by decide +kernel
theorem dX11_readIn_279 : decode cX11_readIn 279 = .ok (.dup2, 1) := by decide +kernel
theorem dX11_readIn_280 : decode cX11_readIn 280 = .ok (.iaload, 1) := by decide +kernel
theorem dX11_readIn_281 : decode cX11_readIn 281 = .ok (.iload 6, 2) := by decide +kernel
theorem dX11_readIn_283 : decode cX11_readIn 283 = .ok (.invokestatic 140, 3) := by decide +kernel
theorem dX11_readIn_286 : decode cX11_readIn 286 = .ok (.iadd, 1) := by decide +kernel
theorem dX11_readIn_287 : decode cX11_readIn 287 = .ok (.iastore, 1) := by decide +kernel
theorem dX11_readIn_288 : decode cX11_readIn 288 = .ok (.iload 5, 2) := by decide +kernel
theorem dX11_readIn_290 : decode cX11_readIn 290 = .ok (.bipush (-4), 2) := by decide +kernel
theorem dX11_readIn_292 : decode cX11_readIn 292 = .ok (.if_icmp .eq 8, 3) := by decide +kernel
theorem dX11_readIn_295 : decode cX11_readIn 295 = .ok (.iload 6, 2) := by decide +kernel
theorem dX11_readIn_297 : decode cX11_readIn 297 = .ok (.ifCond .eq 8, 3) := by decide +kernel
theorem dX11_readIn_300 : decode cX11_readIn 300 = .ok (.iload 4, 2) := by decide +kernel
theorem dX11_readIn_302 : decode cX11_readIn 302 = .ok (.goto 5, 3) := by decide +kernel
theorem dX11_readIn_305 : decode cX11_readIn 305 = .ok (.bipush (-4), 2) := by decide +kernel
theorem dX11_readIn_307 : decode cX11_readIn 307 = .ok (.ireturn, 1) := by decide +kernel
set_option maxRecDepth 20000 in
theorem ggX11_runs_X11_readIn : GoodIn wsX11_runs wsX11_readIn := goodIn_r _ [10, 3, 4, 11, 12, 13, 2, 14, 15, 16, 9, 17, 18, 19, 20, 21, 22, 23, 24, 25, 26, 27, 28, 29, 30, 31, 32, 33, 34, 35, 36, 37, 38, 39, 40, 41, 42, 43, 44, 45, 46, 47, 48, 49, 50, 51, 52, 53, 54, 55, 56, 57, 58, 59, 60, 61, 62, 63, 64, 65, 66, 67, 68, 69, 70] (by decide +kernel) (by decide +kernel)
set_option maxRecDepth 20000 in
theorem gX11_runs_X11_readIn : GoodIn wsX11_runs (wsV RX11 255 RX11 yX11_readIn wsX11_readIn) := goodIn_app (goodIn_of _ (by decide +kernel)) ggX11_runs_X11_readIn
theorem dX11_runs_0 : decode cX11_runs 0 = .ok (.aload_n 0, 1) := by decide +kernel
theorem dX11_runs_1 : decode cX11_runs 1 = .ok (.iconst 1, 1) := by decide +kernel
theorem dX11_runs_2 : decode cX11_runs 2 = .ok (.putfield 252, 3) := by decide +kernel
theorem dX11_runs_5 : decode cX11_runs 5 = .ok (.iconst 1, 1) := by decide +kernel
theorem dX11_runs_6 : decode cX11_runs 6 = .ok (.istore_n 3, 1) := by decide +kernel
theorem dX11_runs_7 : decode cX11_runs 7 = .ok (.iload_n 3, 1) := by decide +kernel
theorem dX11_runs_8 : decode cX11_runs 8 = .ok (.iconst 5, 1) := by decide +kernel
theorem dX11_runs_9 : decode cX11_runs 9 = .ok (.if_icmp .ge 16, 3) := by decide +kernel
theorem dX11_runs_12 : decode cX11_runs 12 = .ok (.aload_n 0, 1) := by decide +kernel
theorem dX11_runs_13 : decode cX11_runs 13 = .ok (.getfield 72, 3) := by decide +kernel
theorem dX11_runs_16 : decode cX11_runs 16 = .ok (.iload_n 3, 1) := by decide +kernel
theorem dX11_runs_17 : decode cX11_runs 17 = .ok (.iconst 0, 1) := by decide +kernel
theorem dX11_runs_18 : decode cX11_runs 18 = .ok (.iastore, 1) := by decide +kernel
theorem dX11_runs_19 : decode cX11_runs 19 = .ok (.iinc 3 1, 3) := by decide +kernel
theorem dX11_runs_22 : decode cX11_runs 22 = .ok (.goto (-15), 3) := by decide +kernel
theorem dX11_runs_25 : decode cX11_runs 25 = .ok (.aload_n 0, 1) := by decide +kernel
theorem dX11_runs_26 : decode cX11_runs 26 = .ok (.getfield 72, 3) := by decide +kernel
theorem dX11_runs_29 : decode cX11_runs 29 = .ok (.iconst 0, 1) := by decide +kernel
theorem dX11_runs_30 : decode cX11_runs 30 = .ok (.iload_n 1, 1) := by decide +kernel
theorem dX11_runs_31 : decode cX11_runs 31 = .ok (.iastore, 1) := by decide +kernel
theorem dX11_runs_32 : decode cX11_runs 32 = .ok (.iconst 0, 1) := by decide +kernel
theorem dX11_runs_33 : decode cX11_runs 33 = .ok (.istore_n 3, 1) := by decide +kernel
theorem dX11_runs_34 : decode cX11_runs 34 = .ok (.iload_n 3, 1) := by decide +kernel
theorem dX11_runs_35 : decode cX11_runs 35 = .ok (.aload_n 0, 1) := by decide +kernel
theorem dX11_runs_36 : decode cX11_runs 36 = .ok (.getfield 107, 3) := by decide +kernel
theorem dX11_runs_39 : decode cX11_runs 39 = .ok (.if_icmp .ge 21, 3) := by decide +kernel
theorem dX11_runs_42 : decode cX11_runs 42 = .ok (.aload_n 0, 1) := by decide +kernel
theorem dX11_runs_43 : decode cX11_runs 43 = .ok (.getfield 51, 3) := by decide +kernel
theorem dX11_runs_46 : decode cX11_runs 46 = .ok (.iload_n 3, 1) := by decide +kernel
theorem dX11_runs_47 : decode cX11_runs 47 = .ok (.aload_n 0, 1) := by decide +kernel
theorem dX11_runs_48 : decode cX11_runs 48 = .ok (.getfield 20, 3) := by decide +kernel
theorem dX11_runs_51 : decode cX11_runs 51 = .ok (.iload_n 3, 1) := by decide +kernel
theorem dX11_runs_52 : decode cX11_runs 52 = .ok (.baload, 1) := by decide +kernel
theorem dX11_runs_53 : decode cX11_runs 53 = .ok (.bastore, 1) := by decide +kernel
theorem dX11_runs_54 : decode cX11_runs 54 = .ok (.iinc 3 1, 3) := by decide +kernel
theorem dX11_runs_57 : decode cX11_runs 57 = .ok (.goto (-23), 3) := by decide +kernel
theorem dX11_runs_60 : decode cX11_runs 60 = .ok (.iconst 0, 1) := by decide +kernel
theorem dX11_runs_61 : decode cX11_runs 61 = .ok (.istore_n 3, 1) := by decide +kernel
theorem dX11_runs_62 : decode cX11_runs 62 = .ok (.iconst 0, 1) := by decide +kernel
theorem dX11_runs_63 : decode cX11_runs 63 = .ok (.istore 4, 2) := by decide +kernel
theorem dX11_runs_65 : decode cX11_runs 65 = .ok (.iload 4, 2) := by decide +kernel
theorem dX11_runs_67 : decode cX11_runs 67 = .ok (.iload_n 1, 1) := by decide +kernel
theorem dX11_runs_68 : decode cX11_runs 68 = .ok (.if_icmp .ge 37, 3) := by decide +kernel
theorem dX11_runs_71 : decode cX11_runs 71 = .ok (.aload_n 0, 1) := by decide +kernel
theorem dX11_runs_72 : decode cX11_runs 72 = .ok (.iload 4, 2) := by decide +kernel
theorem dX11_runs_74 : decode cX11_runs 74 = .ok (.iload_n 1, 1) := by decide +kernel
theorem dX11_runs_75 : decode cX11_runs 75 = .ok (.iload_n 2, 1) := by decide +kernel
theorem dX11_runs_76 : decode cX11_runs 76 = .ok (.invokevirtual 255, 3) := by decide +kernel
theorem dX11_runs_79 : decode cX11_runs 79 = .ok (.istore 5, 2) := by decide +kernel
theorem dX11_runs_81 : decode cX11_runs 81 = .ok (.iload 5, 2) := by decide +kernel
theorem dX11_runs_83 : decode cX11_runs 83 = .ok (.bipush (-4), 2) := by decide +kernel
theorem dX11_runs_85 : decode cX11_runs 85 = .ok (.if_icmp .eq 14, 3) := by decide +kernel
theorem dX11_runs_88 : decode cX11_runs 88 = .ok (.aload_n 0, 1) := by decide +kernel
theorem dX11_runs_89 : decode cX11_runs 89 = .ok (.getfield 20, 3) := by decide +kernel
theorem dX11_runs_92 : decode cX11_runs 92 = .ok (.iload 5, 2) := by decide +kernel
theorem dX11_runs_94 : decode cX11_runs 94 = .ok (.iconst 1, 1) := by decide +kernel
theorem dX11_runs_95 : decode cX11_runs 95 = .ok (.bastore, 1) := by decide +kernel
theorem dX11_runs_96 : decode cX11_runs 96 = .ok (.iinc 3 1, 3) := by decide +kernel
theorem dX11_runs_99 : decode cX11_runs 99 = .ok (.iinc 4 1, 3) := by decide +kernel
theorem dX11_runs_102 : decode cX11_runs 102 = .ok (.goto (-37), 3) := by decide +kernel
theorem dX11_runs_105 : decode cX11_runs 105 = .ok (.iload_n 3, 1) := by decide +kernel
theorem dX11_runs_106 : decode cX11_runs 106 = .ok (.ireturn, 1) := by decide +kernel
set_option maxRecDepth 20000 in
theorem ggX11_frame_X11_isFrame : GoodIn wsX11_frame wsX11_isFrame := goodIn_r _ [4, 5, 6, 7, 3, 8] (by decide +kernel) (by decide +kernel)
set_option maxRecDepth 20000 in
theorem gX11_frame_X11_isFrame : GoodIn wsX11_frame (va_wsS RX11 245 yX11_isFrame wsX11_isFrame) := goodIn_app (goodIn_of _ (by decide +kernel)) ggX11_frame_X11_isFrame
set_option maxRecDepth 20000 in
theorem ggX11_frame_X11_runs : GoodIn wsX11_frame wsX11_runs := goodIn_r _ [12, 13, 14, 15, 16, 17, 18, 19, 20, 3, 21, 22, 23, 24, 25, 26, 27, 28, 29, 30, 31, 32, 33, 34, 35, 36, 37, 38, 39, 40, 41, 42, 43, 44, 45, 46, 47, 48, 49, 50, 51, 52, 53, 54, 55, 56, 57, 58, 59, 60, 61, 62, 63, 64, 65, 66, 67, 68, 69, 70, 71, 72, 73, 74, 75, 76, 77, 78, 79, 80, 81] (by decide +kernel) (by decide +kernel)
set_option maxRecDepth 20000 in
theorem gX11_frame_X11_runs : GoodIn wsX11_frame (wsV RX11 258 RX11 yX11_runs wsX11_runs) := goodIn_app (goodIn_of _ (by decide +kernel)) ggX11_frame_X11_runs
theorem dX11_frame_0 : decode cX11_frame 0 = .ok (.iload_n 1, 1) := by decide +kernel
theorem dX11_frame_1 : decode cX11_frame 1 = .ok (.invokestatic 245, 3) := by decide +kernel
theorem dX11_frame_4 : decode cX11_frame 4 = .ok (.ifCond .eq 12, 3) := by decide +kernel
theorem dX11_frame_7 : decode cX11_frame 7 = .ok (.aload_n 0, 1) := by decide +kernel
theorem dX11_frame_8 : decode cX11_frame 8 = .ok (.iload_n 1, 1) := by decide +kernel
theorem dX11_frame_9 : decode cX11_frame 9 = .ok (.iload_n 2, 1) := by decide +kernel
theorem dX11_frame_10 : decode cX11_frame 10 = .ok (.invokevirtual 258, 3) := by decide +kernel
theorem dX11_frame_13 : decode cX11_frame 13 = .ok (.goto 4, 3) := by decide +kernel
theorem dX11_frame_16 : decode cX11_frame 16 = .ok (.iconst (-1), 1) := by decide +kernel
theorem dX11_frame_17 : decode cX11_frame 17 = .ok (.ireturn, 1) := by decide +kernel
set_option maxRecDepth 20000 in
theorem ggX11_shown_X11_in : GoodIn wsX11_shown wsX11_in := goodIn_r _ [7] (by decide +kernel) (by decide +kernel)
set_option maxRecDepth 20000 in
theorem gX11_shown_X11_in : GoodIn wsX11_shown (va_wsS RX11 103 yX11_in wsX11_in) := goodIn_app (goodIn_of _ (by decide +kernel)) ggX11_shown_X11_in
theorem dX11_shown_0 : decode cX11_shown 0 = .ok (.iload_n 1, 1) := by decide +kernel
theorem dX11_shown_1 : decode cX11_shown 1 = .ok (.i2l, 1) := by decide +kernel
theorem dX11_shown_2 : decode cX11_shown 2 = .ok (.lconst 0, 1) := by decide +kernel
theorem dX11_shown_3 : decode cX11_shown 3 = .ok (.ldc2_w 178, 3) := by decide +kernel
theorem dX11_shown_6 : decode cX11_shown 6 = .ok (.invokestatic 103, 3) := by decide +kernel
theorem dX11_shown_9 : decode cX11_shown 9 = .ok (.ifCond .ne 7, 3) := by decide +kernel
theorem dX11_shown_12 : decode cX11_shown 12 = .ok (.iconst (-1), 1) := by decide +kernel
theorem dX11_shown_13 : decode cX11_shown 13 = .ok (.goto 21, 3) := by decide +kernel
theorem dX11_shown_16 : decode cX11_shown 16 = .ok (.aload_n 0, 1) := by decide +kernel
theorem dX11_shown_17 : decode cX11_shown 17 = .ok (.getfield 252, 3) := by decide +kernel
theorem dX11_shown_20 : decode cX11_shown 20 = .ok (.ifCond .eq 12, 3) := by decide +kernel
theorem dX11_shown_23 : decode cX11_shown 23 = .ok (.aload_n 0, 1) := by decide +kernel
theorem dX11_shown_24 : decode cX11_shown 24 = .ok (.getfield 72, 3) := by decide +kernel
theorem dX11_shown_27 : decode cX11_shown 27 = .ok (.iload_n 1, 1) := by decide +kernel
theorem dX11_shown_28 : decode cX11_shown 28 = .ok (.iaload, 1) := by decide +kernel
theorem dX11_shown_29 : decode cX11_shown 29 = .ok (.goto 5, 3) := by decide +kernel
theorem dX11_shown_32 : decode cX11_shown 32 = .ok (.bipush (-2), 2) := by decide +kernel
theorem dX11_shown_34 : decode cX11_shown 34 = .ok (.ireturn, 1) := by decide +kernel
theorem dX11_within_0 : decode cX11_within 0 = .ok (.iload_n 1, 1) := by decide +kernel
theorem dX11_within_1 : decode cX11_within 1 = .ok (.aload_n 0, 1) := by decide +kernel
theorem dX11_within_2 : decode cX11_within 2 = .ok (.getfield 60, 3) := by decide +kernel
theorem dX11_within_5 : decode cX11_within 5 = .ok (.iconst 1, 1) := by decide +kernel
theorem dX11_within_6 : decode cX11_within 6 = .ok (.iaload, 1) := by decide +kernel
theorem dX11_within_7 : decode cX11_within 7 = .ok (.if_icmp .ge 12, 3) := by decide +kernel
theorem dX11_within_10 : decode cX11_within 10 = .ok (.aload_n 0, 1) := by decide +kernel
theorem dX11_within_11 : decode cX11_within 11 = .ok (.getfield 60, 3) := by decide +kernel
theorem dX11_within_14 : decode cX11_within 14 = .ok (.iconst 1, 1) := by decide +kernel
theorem dX11_within_15 : decode cX11_within 15 = .ok (.iaload, 1) := by decide +kernel
theorem dX11_within_16 : decode cX11_within 16 = .ok (.goto 23, 3) := by decide +kernel
theorem dX11_within_19 : decode cX11_within 19 = .ok (.iload_n 1, 1) := by decide +kernel
theorem dX11_within_20 : decode cX11_within 20 = .ok (.aload_n 0, 1) := by decide +kernel
theorem dX11_within_21 : decode cX11_within 21 = .ok (.getfield 60, 3) := by decide +kernel
theorem dX11_within_24 : decode cX11_within 24 = .ok (.iconst 2, 1) := by decide +kernel
theorem dX11_within_25 : decode cX11_within 25 = .ok (.iaload, 1) := by decide +kernel
theorem dX11_within_26 : decode cX11_within 26 = .ok (.if_icmp .le 12, 3) := by decide +kernel
theorem dX11_within_29 : decode cX11_within 29 = .ok (.aload_n 0, 1) := by decide +kernel
theorem dX11_within_30 : decode cX11_within 30 = .ok (.getfield 60, 3) := by decide +kernel
theorem dX11_within_33 : decode cX11_within 33 = .ok (.iconst 2, 1) := by decide +kernel
theorem dX11_within_34 : decode cX11_within 34 = .ok (.iaload, 1) := by decide +kernel
theorem dX11_within_35 : decode cX11_within 35 = .ok (.goto 4, 3) := by decide +kernel
theorem dX11_within_38 : decode cX11_within 38 = .ok (.iload_n 1, 1) := by decide +kernel
theorem dX11_within_39 : decode cX11_within 39 = .ok (.ireturn, 1) := by decide +kernel
set_option maxRecDepth 20000 in
theorem ggX11_all_X11_within : GoodIn wsX11_all wsX11_within := goodIn_r _ [9, 3, 33, 34, 35, 36, 37, 38, 39, 40, 41, 42, 43, 44, 45, 46, 47, 48, 49, 50, 51, 52, 53, 54, 55, 56, 57, 58, 59, 60, 61, 62, 63, 64, 65, 66, 67, 68, 69, 70, 71, 72, 73, 74, 75, 76, 77, 78, 79, 80] (by decide +kernel) (by decide +kernel)
set_option maxRecDepth 20000 in
theorem gX11_all_X11_within : GoodIn wsX11_all (wsV RX11 264 RX11 yX11_within wsX11_within) := goodIn_app (goodIn_of _ (by decide +kernel)) ggX11_all_X11_within
set_option maxRecDepth 20000 in
theorem ggX11_all_X11_runs : GoodIn wsX11_all wsX11_runs := goodIn_r _ [13, 14, 4, 15, 16, 17, 18, 19, 20, 8, 21, 22, 23, 3, 24, 25, 26, 27, 28, 29, 30, 31, 32, 33, 34, 35, 36, 37, 38, 39, 40, 41, 42, 43, 44, 45, 46, 47, 48, 49, 50, 51, 52, 53, 54, 55, 56, 57, 58, 59, 60, 61, 62, 63, 64, 65, 66, 67, 68, 69, 70, 71, 72, 73, 74, 75, 76, 77, 78, 79, 80] (by decide +kernel) (by decide +kernel)
set_option maxRecDepth 20000 in
theorem gX11_all_X11_runs : GoodIn wsX11_all (wsV RX11 258 RX11 yX11_runs wsX11_runs) := goodIn_app (goodIn_of _ (by decide +kernel)) ggX11_all_X11_runs
theorem dX11_all_0 : decode cX11_all 0 = .ok (.aload_n 0, 1) := by decide +kernel
theorem dX11_all_1 : decode cX11_all 1 = .ok (.iconst 1, 1) := by decide +kernel
theorem dX11_all_2 : decode cX11_all 2 = .ok (.putfield 261, 3) := by decide +kernel
theorem dX11_all_5 : decode cX11_all 5 = .ok (.iconst 0, 1) := by decide +kernel
theorem dX11_all_6 : decode cX11_all 6 = .ok (.istore_n 2, 1) := by decide +kernel
theorem dX11_all_7 : decode cX11_all 7 = .ok (.iload_n 2, 1) := by decide +kernel
theorem dX11_all_8 : decode cX11_all 8 = .ok (.iconst 4, 1) := by decide +kernel
theorem dX11_all_9 : decode cX11_all 9 = .ok (.if_icmp .ge 16, 3) := by decide +kernel
theorem dX11_all_12 : decode cX11_all 12 = .ok (.aload_n 0, 1) := by decide +kernel
theorem dX11_all_13 : decode cX11_all 13 = .ok (.getfield 75, 3) := by decide +kernel
theorem dX11_all_16 : decode cX11_all 16 = .ok (.iload_n 2, 1) := by decide +kernel
theorem dX11_all_17 : decode cX11_all 17 = .ok (.iconst 0, 1) := by decide +kernel
theorem dX11_all_18 : decode cX11_all 18 = .ok (.iastore, 1) := by decide +kernel
theorem dX11_all_19 : decode cX11_all 19 = .ok (.iinc 2 1, 3) := by decide +kernel
theorem dX11_all_22 : decode cX11_all 22 = .ok (.goto (-15), 3) := by decide +kernel
theorem dX11_all_25 : decode cX11_all 25 = .ok (.aload_n 0, 1) := by decide +kernel
theorem dX11_all_26 : decode cX11_all 26 = .ok (.aload_n 0, 1) := by decide +kernel
theorem dX11_all_27 : decode cX11_all 27 = .ok (.getfield 60, 3) := by decide +kernel
theorem dX11_all_30 : decode cX11_all 30 = .ok (.iconst 0, 1) := by decide +kernel
theorem dX11_all_31 : decode cX11_all 31 = .ok (.iaload, 1) := by decide +kernel
theorem dX11_all_32 : decode cX11_all 32 = .ok (.invokevirtual 264, 3) := by decide +kernel
theorem dX11_all_35 : decode cX11_all 35 = .ok (.istore_n 2, 1) := by decide +kernel
theorem dX11_all_36 : decode cX11_all 36 = .ok (.iconst 0, 1) := by decide +kernel
theorem dX11_all_37 : decode cX11_all 37 = .ok (.istore_n 3, 1) := by decide +kernel
theorem dX11_all_38 : decode cX11_all 38 = .ok (.iload_n 3, 1) := by decide +kernel
theorem dX11_all_39 : decode cX11_all 39 = .ok (.aload_n 0, 1) := by decide +kernel
theorem dX11_all_40 : decode cX11_all 40 = .ok (.getfield 60, 3) := by decide +kernel
theorem dX11_all_43 : decode cX11_all 43 = .ok (.bipush 8, 2) := by decide +kernel
theorem dX11_all_45 : decode cX11_all 45 = .ok (.iaload, 1) := by decide +kernel
theorem dX11_all_46 : decode cX11_all 46 = .ok (.if_icmp .ge 151, 3) := by decide +kernel
theorem dX11_all_49 : decode cX11_all 49 = .ok (.aload_n 0, 1) := by decide +kernel
theorem dX11_all_50 : decode cX11_all 50 = .ok (.getfield 75, 3) := by decide +kernel
theorem dX11_all_53 : decode cX11_all 53 = .ok (.iconst 2, 1) := by decide +kernel
theorem dX11_all_54 : decode cX11_all 54 = .ok (.dup2, 1) := by decide +kernel
theorem dX11_all_55 : decode cX11_all 55 = .ok (.iaload, 1) := by decide +kernel
theorem dX11_all_56 : decode cX11_all 56 = .ok (.aload_n 0, 1) := by decide +kernel
theorem dX11_all_57 : decode cX11_all 57 = .ok (.iload_n 2, 1) := by decide +kernel
theorem dX11_all_58 : decode cX11_all 58 = .ok (.iload_n 1, 1) := by decide +kernel
theorem dX11_all_59 : decode cX11_all 59 = .ok (.iload_n 3, 1) := by decide +kernel
theorem dX11_all_60 : decode cX11_all 60 = .ok (.iadd, 1) := by decide +kernel
theorem dX11_all_61 : decode cX11_all 61 = .ok (.invokevirtual 258, 3) := by decide +kernel
theorem dX11_all_64 : decode cX11_all 64 = .ok (.iadd, 1) := by decide +kernel
theorem dX11_all_65 : decode cX11_all 65 = .ok (.iastore, 1) := by decide +kernel
theorem dX11_all_66 : decode cX11_all 66 = .ok (.aload_n 0, 1) := by decide +kernel
theorem dX11_all_67 : decode cX11_all 67 = .ok (.getfield 75, 3) := by decide +kernel
theorem dX11_all_70 : decode cX11_all 70 = .ok (.iconst 0, 1) := by decide +kernel
theorem dX11_all_71 : decode cX11_all 71 = .ok (.dup2, 1) := by decide +kernel
theorem dX11_all_72 : decode cX11_all 72 = .ok (.iaload, 1) := by decide +kernel
theorem dX11_all_73 : decode cX11_all 73 = .ok (.iconst 1, 1) := by decide +kernel
theorem dX11_all_74 : decode cX11_all 74 = .ok (.iadd, 1) := by decide +kernel
theorem dX11_all_75 : decode cX11_all 75 = .ok (.iastore, 1) := by decide +kernel
theorem dX11_all_76 : decode cX11_all 76 = .ok (.aload_n 0, 1) := by decide +kernel
theorem dX11_all_77 : decode cX11_all 77 = .ok (.getfield 75, 3) := by decide +kernel
theorem dX11_all_80 : decode cX11_all 80 = .ok (.iconst 1, 1) := by decide +kernel
theorem dX11_all_81 : decode cX11_all 81 = .ok (.dup2, 1) := by decide +kernel
theorem dX11_all_82 : decode cX11_all 82 = .ok (.iaload, 1) := by decide +kernel
theorem dX11_all_83 : decode cX11_all 83 = .ok (.iload_n 2, 1) := by decide +kernel
theorem dX11_all_84 : decode cX11_all 84 = .ok (.iadd, 1) := by decide +kernel
theorem dX11_all_85 : decode cX11_all 85 = .ok (.iastore, 1) := by decide +kernel
theorem dX11_all_86 : decode cX11_all 86 = .ok (.aload_n 0, 1) := by decide +kernel
theorem dX11_all_87 : decode cX11_all 87 = .ok (.getfield 75, 3) := by decide +kernel
theorem dX11_all_90 : decode cX11_all 90 = .ok (.iconst 3, 1) := by decide +kernel
theorem dX11_all_91 : decode cX11_all 91 = .ok (.iload_n 2, 1) := by decide +kernel
theorem dX11_all_92 : decode cX11_all 92 = .ok (.iastore, 1) := by decide +kernel
theorem dX11_all_93 : decode cX11_all 93 = .ok (.aload_n 0, 1) := by decide +kernel
theorem dX11_all_94 : decode cX11_all 94 = .ok (.getfield 72, 3) := by decide +kernel
theorem dX11_all_97 : decode cX11_all 97 = .ok (.iconst 1, 1) := by decide +kernel
theorem dX11_all_98 : decode cX11_all 98 = .ok (.iaload, 1) := by decide +kernel
theorem dX11_all_99 : decode cX11_all 99 = .ok (.iload_n 2, 1) := by decide +kernel
theorem dX11_all_100 : decode cX11_all 100 = .ok (.if_icmp .ne 10, 3) := by decide +kernel
theorem dX11_all_103 : decode cX11_all 103 = .ok (.aload_n 0, 1) := by decide +kernel
theorem dX11_all_104 : decode cX11_all 104 = .ok (.getfield 75, 3) := by decide +kernel
theorem dX11_all_107 : decode cX11_all 107 = .ok (.iconst 0, 1) := by decide +kernel
theorem dX11_all_108 : decode cX11_all 108 = .ok (.iaload, 1) := by decide +kernel
theorem dX11_all_109 : decode cX11_all 109 = .ok (.ireturn, 1) := by decide +kernel
theorem dX11_all_110 : decode cX11_all 110 = .ok (.bipush 100, 2) := by decide +kernel
theorem dX11_all_112 : decode cX11_all 112 = .ok (.aload_n 0, 1) := by decide +kernel
theorem dX11_all_113 : decode cX11_all 113 = .ok (.getfield 72, 3) := by decide +kernel
theorem dX11_all_116 : decode cX11_all 116 = .ok (.iconst 3, 1) := by decide +kernel
theorem dX11_all_117 : decode cX11_all 117 = .ok (.iaload, 1) := by decide +kernel
theorem dX11_all_118 : decode cX11_all 118 = .ok (.imul, 1) := by decide +kernel
theorem dX11_all_119 : decode cX11_all 119 = .ok (.aload_n 0, 1) := by decide +kernel
theorem dX11_all_120 : decode cX11_all 120 = .ok (.getfield 60, 3) := by decide +kernel
theorem dX11_all_123 : decode cX11_all 123 = .ok (.iconst 3, 1) := by decide +kernel
theorem dX11_all_124 : decode cX11_all 124 = .ok (.iaload, 1) := by decide +kernel
theorem dX11_all_125 : decode cX11_all 125 = .ok (.iload_n 2, 1) := by decide +kernel
theorem dX11_all_126 : decode cX11_all 126 = .ok (.aload_n 0, 1) := by decide +kernel
theorem dX11_all_127 : decode cX11_all 127 = .ok (.getfield 72, 3) := by decide +kernel
theorem dX11_all_130 : decode cX11_all 130 = .ok (.iconst 1, 1) := by decide +kernel
theorem dX11_all_131 : decode cX11_all 131 = .ok (.iaload, 1) := by decide +kernel
theorem dX11_all_132 : decode cX11_all 132 = .ok (.isub, 1) := by decide +kernel
theorem dX11_all_133 : decode cX11_all 133 = .ok (.imul, 1) := by decide +kernel
theorem dX11_all_134 : decode cX11_all 134 = .ok (.if_icmp .lt 18, 3) := by decide +kernel
theorem dX11_all_137 : decode cX11_all 137 = .ok (.iload_n 2, 1) := by decide +kernel
theorem dX11_all_138 : decode cX11_all 138 = .ok (.aload_n 0, 1) := by decide +kernel
theorem dX11_all_139 : decode cX11_all 139 = .ok (.getfield 60, 3) := by decide +kernel
theorem dX11_all_142 : decode cX11_all 142 = .ok (.iconst 4, 1) := by decide +kernel
theorem dX11_all_143 : decode cX11_all 143 = .ok (.iaload, 1) := by decide +kernel
theorem dX11_all_144 : decode cX11_all 144 = .ok (.imul, 1) := by decide +kernel
theorem dX11_all_145 : decode cX11_all 145 = .ok (.bipush 100, 2) := by decide +kernel
theorem dX11_all_147 : decode cX11_all 147 = .ok (.idiv, 1) := by decide +kernel
theorem dX11_all_148 : decode cX11_all 148 = .ok (.istore_n 2, 1) := by decide +kernel
theorem dX11_all_149 : decode cX11_all 149 = .ok (.goto 36, 3) := by decide +kernel
theorem dX11_all_152 : decode cX11_all 152 = .ok (.bipush 100, 2) := by decide +kernel
theorem dX11_all_154 : decode cX11_all 154 = .ok (.aload_n 0, 1) := by decide +kernel
theorem dX11_all_155 : decode cX11_all 155 = .ok (.getfield 72, 3) := by decide +kernel
theorem dX11_all_158 : decode cX11_all 158 = .ok (.iconst 1, 1) := by decide +kernel
theorem dX11_all_159 : decode cX11_all 159 = .ok (.iaload, 1) := by decide +kernel
theorem dX11_all_160 : decode cX11_all 160 = .ok (.imul, 1) := by decide +kernel
theorem dX11_all_161 : decode cX11_all 161 = .ok (.aload_n 0, 1) := by decide +kernel
theorem dX11_all_162 : decode cX11_all 162 = .ok (.getfield 60, 3) := by decide +kernel
theorem dX11_all_165 : decode cX11_all 165 = .ok (.iconst 5, 1) := by decide +kernel
theorem dX11_all_166 : decode cX11_all 166 = .ok (.iaload, 1) := by decide +kernel
theorem dX11_all_167 : decode cX11_all 167 = .ok (.iload_n 2, 1) := by decide +kernel
theorem dX11_all_168 : decode cX11_all 168 = .ok (.imul, 1) := by decide +kernel
theorem dX11_all_169 : decode cX11_all 169 = .ok (.if_icmp .lt 16, 3) := by decide +kernel
theorem dX11_all_172 : decode cX11_all 172 = .ok (.iload_n 2, 1) := by decide +kernel
theorem dX11_all_173 : decode cX11_all 173 = .ok (.aload_n 0, 1) := by decide +kernel
theorem dX11_all_174 : decode cX11_all 174 = .ok (.getfield 60, 3) := by decide +kernel
theorem dX11_all_177 : decode cX11_all 177 = .ok (.bipush 6, 2) := by decide +kernel
theorem dX11_all_179 : decode cX11_all 179 = .ok (.iaload, 1) := by decide +kernel
theorem dX11_all_180 : decode cX11_all 180 = .ok (.imul, 1) := by decide +kernel
theorem dX11_all_181 : decode cX11_all 181 = .ok (.bipush 100, 2) := by decide +kernel
theorem dX11_all_183 : decode cX11_all 183 = .ok (.idiv, 1) := by decide +kernel
theorem dX11_all_184 : decode cX11_all 184 = .ok (.istore_n 2, 1) := by decide +kernel
theorem dX11_all_185 : decode cX11_all 185 = .ok (.aload_n 0, 1) := by decide +kernel
theorem dX11_all_186 : decode cX11_all 186 = .ok (.iload_n 2, 1) := by decide +kernel
theorem dX11_all_187 : decode cX11_all 187 = .ok (.invokevirtual 264, 3) := by decide +kernel
theorem dX11_all_190 : decode cX11_all 190 = .ok (.istore_n 2, 1) := by decide +kernel
theorem dX11_all_191 : decode cX11_all 191 = .ok (.iinc 3 1, 3) := by decide +kernel
theorem dX11_all_194 : decode cX11_all 194 = .ok (.goto (-156), 3) := by decide +kernel
theorem dX11_all_197 : decode cX11_all 197 = .ok (.bipush (-6), 2) := by decide +kernel
theorem dX11_all_199 : decode cX11_all 199 = .ok (.ireturn, 1) := by decide +kernel
set_option maxRecDepth 20000 in
theorem ggX11_went_X11_in : GoodIn wsX11_went wsX11_in := goodIn_r _ [7] (by decide +kernel) (by decide +kernel)
set_option maxRecDepth 20000 in
theorem gX11_went_X11_in : GoodIn wsX11_went (va_wsS RX11 103 yX11_in wsX11_in) := goodIn_app (goodIn_of _ (by decide +kernel)) ggX11_went_X11_in
theorem dX11_went_0 : decode cX11_went 0 = .ok (.iload_n 1, 1) := by decide +kernel
theorem dX11_went_1 : decode cX11_went 1 = .ok (.i2l, 1) := by decide +kernel
theorem dX11_went_2 : decode cX11_went 2 = .ok (.lconst 0, 1) := by decide +kernel
theorem dX11_went_3 : decode cX11_went 3 = .ok (.ldc2_w 267, 3) := by decide +kernel
theorem dX11_went_6 : decode cX11_went 6 = .ok (.invokestatic 103, 3) := by decide +kernel
theorem dX11_went_9 : decode cX11_went 9 = .ok (.ifCond .ne 7, 3) := by decide +kernel
theorem dX11_went_12 : decode cX11_went 12 = .ok (.iconst (-1), 1) := by decide +kernel
theorem dX11_went_13 : decode cX11_went 13 = .ok (.goto 21, 3) := by decide +kernel
theorem dX11_went_16 : decode cX11_went 16 = .ok (.aload_n 0, 1) := by decide +kernel
theorem dX11_went_17 : decode cX11_went 17 = .ok (.getfield 261, 3) := by decide +kernel
theorem dX11_went_20 : decode cX11_went 20 = .ok (.ifCond .eq 12, 3) := by decide +kernel
theorem dX11_went_23 : decode cX11_went 23 = .ok (.aload_n 0, 1) := by decide +kernel
theorem dX11_went_24 : decode cX11_went 24 = .ok (.getfield 75, 3) := by decide +kernel
theorem dX11_went_27 : decode cX11_went 27 = .ok (.iload_n 1, 1) := by decide +kernel
theorem dX11_went_28 : decode cX11_went 28 = .ok (.iaload, 1) := by decide +kernel
theorem dX11_went_29 : decode cX11_went 29 = .ok (.goto 5, 3) := by decide +kernel
theorem dX11_went_32 : decode cX11_went 32 = .ok (.bipush (-2), 2) := by decide +kernel
theorem dX11_went_34 : decode cX11_went 34 = .ok (.ireturn, 1) := by decide +kernel
theorem dX11_chooses_0 : decode cX11_chooses 0 = .ok (.aload_n 0, 1) := by decide +kernel
theorem dX11_chooses_1 : decode cX11_chooses 1 = .ok (.getfield 78, 3) := by decide +kernel
theorem dX11_chooses_4 : decode cX11_chooses 4 = .ok (.bipush 17, 2) := by decide +kernel
theorem dX11_chooses_6 : decode cX11_chooses 6 = .ok (.iload_n 1, 1) := by decide +kernel
theorem dX11_chooses_7 : decode cX11_chooses 7 = .ok (.imul, 1) := by decide +kernel
theorem dX11_chooses_8 : decode cX11_chooses 8 = .ok (.iload_n 2, 1) := by decide +kernel
theorem dX11_chooses_9 : decode cX11_chooses 9 = .ok (.iadd, 1) := by decide +kernel
theorem dX11_chooses_10 : decode cX11_chooses 10 = .ok (.laload, 1) := by decide +kernel
theorem dX11_chooses_11 : decode cX11_chooses 11 = .ok (.lreturn, 1) := by decide +kernel
set_option maxRecDepth 20000 in
theorem ggX11_waysIn_X11_chooses : GoodIn wsX11_waysIn wsX11_chooses := goodIn_r _ [6, 7, 8, 9, 10, 11, 12, 13, 14, 15, 16, 17, 18, 19, 20, 21, 22, 23, 24, 25, 26, 27, 28, 29, 30, 31, 32, 33, 34, 35, 36, 37, 38, 39, 40, 41, 42, 43, 44, 45, 46, 47, 48, 49, 50, 51, 52, 53, 54, 55] (by decide +kernel) (by decide +kernel)
set_option maxRecDepth 20000 in
theorem gX11_waysIn_X11_chooses : GoodIn wsX11_waysIn (wsV RX11 269 RX11 yX11_chooses wsX11_chooses) := goodIn_app (goodIn_of _ (by decide +kernel)) ggX11_waysIn_X11_chooses
theorem dX11_waysIn_0 : decode cX11_waysIn 0 = .ok (.iconst 0, 1) := by decide +kernel
theorem dX11_waysIn_1 : decode cX11_waysIn 1 = .ok (.istore 4, 2) := by decide +kernel
theorem dX11_waysIn_3 : decode cX11_waysIn 3 = .ok (.iload 4, 2) := by decide +kernel
theorem dX11_waysIn_5 : decode cX11_waysIn 5 = .ok (.sipush 221, 3) := by decide +kernel
theorem dX11_waysIn_8 : decode cX11_waysIn 8 = .ok (.if_icmp .ge 17, 3) := by decide +kernel
theorem dX11_waysIn_11 : decode cX11_waysIn 11 = .ok (.aload_n 0, 1) := by decide +kernel
theorem dX11_waysIn_12 : decode cX11_waysIn 12 = .ok (.getfield 82, 3) := by decide +kernel
theorem dX11_waysIn_15 : decode cX11_waysIn 15 = .ok (.iload 4, 2) := by decide +kernel
theorem dX11_waysIn_17 : decode cX11_waysIn 17 = .ok (.lconst 0, 1) := by decide +kernel
theorem dX11_waysIn_18 : decode cX11_waysIn 18 = .ok (.lastore, 1) := by decide +kernel
theorem dX11_waysIn_19 : decode cX11_waysIn 19 = .ok (.iinc 4 1, 3) := by decide +kernel
theorem dX11_waysIn_22 : decode cX11_waysIn 22 = .ok (.goto (-19), 3) := by decide +kernel
theorem dX11_waysIn_25 : decode cX11_waysIn 25 = .ok (.aload_n 0, 1) := by decide +kernel
theorem dX11_waysIn_26 : decode cX11_waysIn 26 = .ok (.getfield 82, 3) := by decide +kernel
theorem dX11_waysIn_29 : decode cX11_waysIn 29 = .ok (.iconst 0, 1) := by decide +kernel
theorem dX11_waysIn_30 : decode cX11_waysIn 30 = .ok (.lconst 1, 1) := by decide +kernel
theorem dX11_waysIn_31 : decode cX11_waysIn 31 = .ok (.lastore, 1) := by decide +kernel
theorem dX11_waysIn_32 : decode cX11_waysIn 32 = .ok (.iconst 1, 1) := by decide +kernel
theorem dX11_waysIn_33 : decode cX11_waysIn 33 = .ok (.istore 4, 2) := by decide +kernel
theorem dX11_waysIn_35 : decode cX11_waysIn 35 = .ok (.iload 4, 2) := by decide +kernel
theorem dX11_waysIn_37 : decode cX11_waysIn 37 = .ok (.iload_n 1, 1) := by decide +kernel
