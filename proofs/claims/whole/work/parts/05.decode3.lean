theorem dX8_scan_114 : decode cX8_scan 114 = .ok (.aload_n 0, 1) := by decide +kernel
theorem dX8_scan_115 : decode cX8_scan 115 = .ok (.iconst 3, 1) := by decide +kernel
theorem dX8_scan_116 : decode cX8_scan 116 = .ok (.putfield 205, 3) := by decide +kernel
theorem dX8_scan_119 : decode cX8_scan 119 = .ok (.goto 184, 3) := by decide +kernel
theorem dX8_scan_122 : decode cX8_scan 122 = .ok (.aload_n 0, 1) := by decide +kernel
theorem dX8_scan_123 : decode cX8_scan 123 = .ok (.aload_n 0, 1) := by decide +kernel
theorem dX8_scan_124 : decode cX8_scan 124 = .ok (.getfield 199, 3) := by decide +kernel
theorem dX8_scan_127 : decode cX8_scan 127 = .ok (.invokevirtual 211, 3) := by decide +kernel
theorem dX8_scan_130 : decode cX8_scan 130 = .ok (.ifCond .eq 103, 3) := by decide +kernel
theorem dX8_scan_133 : decode cX8_scan 133 = .ok (.aload_n 0, 1) := by decide +kernel
theorem dX8_scan_134 : decode cX8_scan 134 = .ok (.iconst 0, 1) := by decide +kernel
theorem dX8_scan_135 : decode cX8_scan 135 = .ok (.putfield 214, 3) := by decide +kernel
theorem dX8_scan_138 : decode cX8_scan 138 = .ok (.aload_n 0, 1) := by decide +kernel
theorem dX8_scan_139 : decode cX8_scan 139 = .ok (.aload_n 0, 1) := by decide +kernel
theorem dX8_scan_140 : decode cX8_scan 140 = .ok (.getfield 199, 3) := by decide +kernel
theorem dX8_scan_143 : decode cX8_scan 143 = .ok (.invokevirtual 211, 3) := by decide +kernel
theorem dX8_scan_146 : decode cX8_scan 146 = .ok (.ifCond .eq 61, 3) := by decide +kernel
theorem dX8_scan_149 : decode cX8_scan 149 = .ok (.aload_n 0, 1) := by decide +kernel
theorem dX8_scan_150 : decode cX8_scan 150 = .ok (.aload_n 0, 1) := by decide +kernel
theorem dX8_scan_151 : decode cX8_scan 151 = .ok (.getfield 199, 3) := by decide +kernel
theorem dX8_scan_154 : decode cX8_scan 154 = .ok (.aload_n 0, 1) := by decide +kernel
theorem dX8_scan_155 : decode cX8_scan 155 = .ok (.getfield 202, 3) := by decide +kernel
theorem dX8_scan_158 : decode cX8_scan 158 = .ok (.isub, 1) := by decide +kernel
theorem dX8_scan_159 : decode cX8_scan 159 = .ok (.bipush 7, 2) := by decide +kernel
theorem dX8_scan_161 : decode cX8_scan 161 = .ok (.if_icmp .ge 26, 3) := by decide +kernel
theorem dX8_scan_164 : decode cX8_scan 164 = .ok (.bipush 10, 2) := by decide +kernel
theorem dX8_scan_166 : decode cX8_scan 166 = .ok (.aload_n 0, 1) := by decide +kernel
theorem dX8_scan_167 : decode cX8_scan 167 = .ok (.getfield 214, 3) := by decide +kernel
theorem dX8_scan_170 : decode cX8_scan 170 = .ok (.imul, 1) := by decide +kernel
theorem dX8_scan_171 : decode cX8_scan 171 = .ok (.aload_n 0, 1) := by decide +kernel
theorem dX8_scan_172 : decode cX8_scan 172 = .ok (.getfield 27, 3) := by decide +kernel
theorem dX8_scan_175 : decode cX8_scan 175 = .ok (.aload_n 0, 1) := by decide +kernel
theorem dX8_scan_176 : decode cX8_scan 176 = .ok (.getfield 199, 3) := by decide +kernel
theorem dX8_scan_179 : decode cX8_scan 179 = .ok (.iaload, 1) := by decide +kernel
theorem dX8_scan_180 : decode cX8_scan 180 = .ok (.iadd, 1) := by decide +kernel
theorem dX8_scan_181 : decode cX8_scan 181 = .ok (.bipush 48, 2) := by decide +kernel
theorem dX8_scan_183 : decode cX8_scan 183 = .ok (.isub, 1) := by decide +kernel
theorem dX8_scan_184 : decode cX8_scan 184 = .ok (.goto 7, 3) := by decide +kernel
theorem dX8_scan_187 : decode cX8_scan 187 = .ok (.aload_n 0, 1) := by decide +kernel
theorem dX8_scan_188 : decode cX8_scan 188 = .ok (.getfield 214, 3) := by decide +kernel
theorem dX8_scan_191 : decode cX8_scan 191 = .ok (.putfield 214, 3) := by decide +kernel
theorem dX8_scan_194 : decode cX8_scan 194 = .ok (.aload_n 0, 1) := by decide +kernel
theorem dX8_scan_195 : decode cX8_scan 195 = .ok (.dup, 1) := by decide +kernel
theorem dX8_scan_196 : decode cX8_scan 196 = .ok (.getfield 199, 3) := by decide +kernel
theorem dX8_scan_199 : decode cX8_scan 199 = .ok (.iconst 1, 1) := by decide +kernel
theorem dX8_scan_200 : decode cX8_scan 200 = .ok (.iadd, 1) := by decide +kernel
theorem dX8_scan_201 : decode cX8_scan 201 = .ok (.putfield 199, 3) := by decide +kernel
theorem dX8_scan_204 : decode cX8_scan 204 = .ok (.goto (-66), 3) := by decide +kernel
theorem dX8_scan_207 : decode cX8_scan 207 = .ok (.aload_n 0, 1) := by decide +kernel
theorem dX8_scan_208 : decode cX8_scan 208 = .ok (.aload_n 0, 1) := by decide +kernel
theorem dX8_scan_209 : decode cX8_scan 209 = .ok (.getfield 199, 3) := by decide +kernel
theorem dX8_scan_212 : decode cX8_scan 212 = .ok (.aload_n 0, 1) := by decide +kernel
theorem dX8_scan_213 : decode cX8_scan 213 = .ok (.getfield 202, 3) := by decide +kernel
theorem dX8_scan_216 : decode cX8_scan 216 = .ok (.isub, 1) := by decide +kernel
theorem dX8_scan_217 : decode cX8_scan 217 = .ok (.bipush 7, 2) := by decide +kernel
theorem dX8_scan_219 : decode cX8_scan 219 = .ok (.if_icmp .le 7, 3) := by decide +kernel
theorem dX8_scan_222 : decode cX8_scan 222 = .ok (.iconst 4, 1) := by decide +kernel
theorem dX8_scan_223 : decode cX8_scan 223 = .ok (.goto 4, 3) := by decide +kernel
theorem dX8_scan_226 : decode cX8_scan 226 = .ok (.iconst 2, 1) := by decide +kernel
theorem dX8_scan_227 : decode cX8_scan 227 = .ok (.putfield 205, 3) := by decide +kernel
theorem dX8_scan_230 : decode cX8_scan 230 = .ok (.goto 73, 3) := by decide +kernel
theorem dX8_scan_233 : decode cX8_scan 233 = .ok (.aload_n 0, 1) := by decide +kernel
theorem dX8_scan_234 : decode cX8_scan 234 = .ok (.aload_n 0, 1) := by decide +kernel
theorem dX8_scan_235 : decode cX8_scan 235 = .ok (.getfield 27, 3) := by decide +kernel
theorem dX8_scan_238 : decode cX8_scan 238 = .ok (.aload_n 0, 1) := by decide +kernel
theorem dX8_scan_239 : decode cX8_scan 239 = .ok (.getfield 199, 3) := by decide +kernel
theorem dX8_scan_242 : decode cX8_scan 242 = .ok (.iaload, 1) := by decide +kernel
theorem dX8_scan_243 : decode cX8_scan 243 = .ok (.bipush 59, 2) := by decide +kernel
theorem dX8_scan_245 : decode cX8_scan 245 = .ok (.if_icmp .ne 7, 3) := by decide +kernel
theorem dX8_scan_248 : decode cX8_scan 248 = .ok (.iconst 1, 1) := by decide +kernel
theorem dX8_scan_249 : decode cX8_scan 249 = .ok (.goto 41, 3) := by decide +kernel
theorem dX8_scan_252 : decode cX8_scan 252 = .ok (.aload_n 0, 1) := by decide +kernel
theorem dX8_scan_253 : decode cX8_scan 253 = .ok (.getfield 27, 3) := by decide +kernel
theorem dX8_scan_256 : decode cX8_scan 256 = .ok (.aload_n 0, 1) := by decide +kernel
theorem dX8_scan_257 : decode cX8_scan 257 = .ok (.getfield 199, 3) := by decide +kernel
theorem dX8_scan_260 : decode cX8_scan 260 = .ok (.iaload, 1) := by decide +kernel
theorem dX8_scan_261 : decode cX8_scan 261 = .ok (.bipush 40, 2) := by decide +kernel
theorem dX8_scan_263 : decode cX8_scan 263 = .ok (.if_icmp .ne 7, 3) := by decide +kernel
theorem dX8_scan_266 : decode cX8_scan 266 = .ok (.iconst 5, 1) := by decide +kernel
theorem dX8_scan_267 : decode cX8_scan 267 = .ok (.goto 23, 3) := by decide +kernel
theorem dX8_scan_270 : decode cX8_scan 270 = .ok (.aload_n 0, 1) := by decide +kernel
theorem dX8_scan_271 : decode cX8_scan 271 = .ok (.getfield 27, 3) := by decide +kernel
theorem dX8_scan_274 : decode cX8_scan 274 = .ok (.aload_n 0, 1) := by decide +kernel
theorem dX8_scan_275 : decode cX8_scan 275 = .ok (.getfield 199, 3) := by decide +kernel
theorem dX8_scan_278 : decode cX8_scan 278 = .ok (.iaload, 1) := by decide +kernel
theorem dX8_scan_279 : decode cX8_scan 279 = .ok (.bipush 41, 2) := by decide +kernel
theorem dX8_scan_281 : decode cX8_scan 281 = .ok (.if_icmp .ne 8, 3) := by decide +kernel
theorem dX8_scan_284 : decode cX8_scan 284 = .ok (.bipush 6, 2) := by decide +kernel
theorem dX8_scan_286 : decode cX8_scan 286 = .ok (.goto 4, 3) := by decide +kernel
theorem dX8_scan_289 : decode cX8_scan 289 = .ok (.iconst 4, 1) := by decide +kernel
theorem dX8_scan_290 : decode cX8_scan 290 = .ok (.putfield 205, 3) := by decide +kernel
theorem dX8_scan_293 : decode cX8_scan 293 = .ok (.aload_n 0, 1) := by decide +kernel
theorem dX8_scan_294 : decode cX8_scan 294 = .ok (.dup, 1) := by decide +kernel
theorem dX8_scan_295 : decode cX8_scan 295 = .ok (.getfield 199, 3) := by decide +kernel
theorem dX8_scan_298 : decode cX8_scan 298 = .ok (.iconst 1, 1) := by decide +kernel
theorem dX8_scan_299 : decode cX8_scan 299 = .ok (.iadd, 1) := by decide +kernel
theorem dX8_scan_300 : decode cX8_scan 300 = .ok (.putfield 199, 3) := by decide +kernel
theorem dX8_scan_303 : decode cX8_scan 303 = .ok (.return_, 1) := by decide +kernel
set_option maxRecDepth 20000 in
theorem ggX8_isWord_J0_length_8abf5 : GoodIn wsX8_isWord wsJ0_length_8abf5 := goodIn_r _ [10, 11, 12, 13, 14, 9, 15, 16, 17] (by decide +kernel) (by decide +kernel)
set_option maxRecDepth 20000 in
theorem gX8_isWord_J0_length_8abf5 : GoodIn wsX8_isWord (wsV RX8 220 RJ0 yJ0_length_8abf5 wsJ0_length_8abf5) := goodIn_app (goodIn_of _ (by decide +kernel)) ggX8_isWord_J0_length_8abf5
set_option maxRecDepth 20000 in
theorem ggX8_isWord_J0_charAt_5068e : GoodIn wsX8_isWord wsJ0_charAt_5068e := goodIn_r _ [21, 11, 22, 23, 24, 9, 25, 16, 17, 26, 27, 28, 29, 30, 31, 32, 33, 34, 35, 36, 37, 38, 39, 40, 41, 42, 43, 44, 45, 46, 47, 48, 49, 50, 51, 52, 53, 54] (by decide +kernel) (by decide +kernel)
set_option maxRecDepth 20000 in
theorem gX8_isWord_J0_charAt_5068e : GoodIn wsX8_isWord (wsV RX8 225 RJ0 yJ0_charAt_5068e wsJ0_charAt_5068e) := goodIn_app (goodIn_of _ (by decide +kernel)) ggX8_isWord_J0_charAt_5068e
theorem dX8_isWord_0 : decode cX8_isWord 0 = .ok (.aload_n 0, 1) := by decide +kernel
theorem dX8_isWord_1 : decode cX8_isWord 1 = .ok (.getfield 217, 3) := by decide +kernel
theorem dX8_isWord_4 : decode cX8_isWord 4 = .ok (.ifCond .ne 31, 3) := by decide +kernel
theorem dX8_isWord_7 : decode cX8_isWord 7 = .ok (.aload_n 0, 1) := by decide +kernel
theorem dX8_isWord_8 : decode cX8_isWord 8 = .ok (.getfield 205, 3) := by decide +kernel
theorem dX8_isWord_11 : decode cX8_isWord 11 = .ok (.iconst 3, 1) := by decide +kernel
theorem dX8_isWord_12 : decode cX8_isWord 12 = .ok (.if_icmp .ne 23, 3) := by decide +kernel
theorem dX8_isWord_15 : decode cX8_isWord 15 = .ok (.aload_n 0, 1) := by decide +kernel
theorem dX8_isWord_16 : decode cX8_isWord 16 = .ok (.getfield 199, 3) := by decide +kernel
theorem dX8_isWord_19 : decode cX8_isWord 19 = .ok (.aload_n 0, 1) := by decide +kernel
theorem dX8_isWord_20 : decode cX8_isWord 20 = .ok (.getfield 202, 3) := by decide +kernel
theorem dX8_isWord_23 : decode cX8_isWord 23 = .ok (.isub, 1) := by decide +kernel
theorem dX8_isWord_24 : decode cX8_isWord 24 = .ok (.aload_n 1, 1) := by decide +kernel
theorem dX8_isWord_25 : decode cX8_isWord 25 = .ok (.invokevirtual 220, 3) := by decide +kernel
theorem dX8_isWord_28 : decode cX8_isWord 28 = .ok (.if_icmp .ne 7, 3) := by decide +kernel
theorem dX8_isWord_31 : decode cX8_isWord 31 = .ok (.iconst 1, 1) := by decide +kernel
theorem dX8_isWord_32 : decode cX8_isWord 32 = .ok (.goto 4, 3) := by decide +kernel
theorem dX8_isWord_35 : decode cX8_isWord 35 = .ok (.iconst 0, 1) := by decide +kernel
theorem dX8_isWord_36 : decode cX8_isWord 36 = .ok (.istore_n 2, 1) := by decide +kernel
theorem dX8_isWord_37 : decode cX8_isWord 37 = .ok (.iconst 0, 1) := by decide +kernel
theorem dX8_isWord_38 : decode cX8_isWord 38 = .ok (.istore_n 3, 1) := by decide +kernel
theorem dX8_isWord_39 : decode cX8_isWord 39 = .ok (.iload_n 2, 1) := by decide +kernel
theorem dX8_isWord_40 : decode cX8_isWord 40 = .ok (.ifCond .eq 42, 3) := by decide +kernel
theorem dX8_isWord_43 : decode cX8_isWord 43 = .ok (.iload_n 3, 1) := by decide +kernel
theorem dX8_isWord_44 : decode cX8_isWord 44 = .ok (.aload_n 1, 1) := by decide +kernel
theorem dX8_isWord_45 : decode cX8_isWord 45 = .ok (.invokevirtual 220, 3) := by decide +kernel
theorem dX8_isWord_48 : decode cX8_isWord 48 = .ok (.if_icmp .ge 34, 3) := by decide +kernel
theorem dX8_isWord_51 : decode cX8_isWord 51 = .ok (.aload_n 0, 1) := by decide +kernel
theorem dX8_isWord_52 : decode cX8_isWord 52 = .ok (.getfield 27, 3) := by decide +kernel
theorem dX8_isWord_55 : decode cX8_isWord 55 = .ok (.aload_n 0, 1) := by decide +kernel
theorem dX8_isWord_56 : decode cX8_isWord 56 = .ok (.getfield 202, 3) := by decide +kernel
theorem dX8_isWord_59 : decode cX8_isWord 59 = .ok (.iload_n 3, 1) := by decide +kernel
theorem dX8_isWord_60 : decode cX8_isWord 60 = .ok (.iadd, 1) := by decide +kernel
theorem dX8_isWord_61 : decode cX8_isWord 61 = .ok (.iaload, 1) := by decide +kernel
theorem dX8_isWord_62 : decode cX8_isWord 62 = .ok (.aload_n 1, 1) := by decide +kernel
theorem dX8_isWord_63 : decode cX8_isWord 63 = .ok (.iload_n 3, 1) := by decide +kernel
theorem dX8_isWord_64 : decode cX8_isWord 64 = .ok (.invokevirtual 225, 3) := by decide +kernel
theorem dX8_isWord_67 : decode cX8_isWord 67 = .ok (.if_icmp .ne 7, 3) := by decide +kernel
theorem dX8_isWord_70 : decode cX8_isWord 70 = .ok (.iconst 1, 1) := by decide +kernel
theorem dX8_isWord_71 : decode cX8_isWord 71 = .ok (.goto 4, 3) := by decide +kernel
theorem dX8_isWord_74 : decode cX8_isWord 74 = .ok (.iconst 0, 1) := by decide +kernel
theorem dX8_isWord_75 : decode cX8_isWord 75 = .ok (.istore_n 2, 1) := by decide +kernel
theorem dX8_isWord_76 : decode cX8_isWord 76 = .ok (.iinc 3 1, 3) := by decide +kernel
theorem dX8_isWord_79 : decode cX8_isWord 79 = .ok (.goto (-40), 3) := by decide +kernel
theorem dX8_isWord_82 : decode cX8_isWord 82 = .ok (.iload_n 2, 1) := by decide +kernel
theorem dX8_isWord_83 : decode cX8_isWord 83 = .ok (.ireturn, 1) := by decide +kernel
theorem dX8_fail_0 : decode cX8_fail 0 = .ok (.aload_n 0, 1) := by decide +kernel
theorem dX8_fail_1 : decode cX8_fail 1 = .ok (.getfield 217, 3) := by decide +kernel
theorem dX8_fail_4 : decode cX8_fail 4 = .ok (.ifCond .ne 16, 3) := by decide +kernel
theorem dX8_fail_7 : decode cX8_fail 7 = .ok (.aload_n 0, 1) := by decide +kernel
theorem dX8_fail_8 : decode cX8_fail 8 = .ok (.iload_n 1, 1) := by decide +kernel
theorem dX8_fail_9 : decode cX8_fail 9 = .ok (.putfield 217, 3) := by decide +kernel
theorem dX8_fail_12 : decode cX8_fail 12 = .ok (.aload_n 0, 1) := by decide +kernel
theorem dX8_fail_13 : decode cX8_fail 13 = .ok (.aload_n 0, 1) := by decide +kernel
theorem dX8_fail_14 : decode cX8_fail 14 = .ok (.getfield 202, 3) := by decide +kernel
theorem dX8_fail_17 : decode cX8_fail 17 = .ok (.putfield 229, 3) := by decide +kernel
theorem dX8_fail_20 : decode cX8_fail 20 = .ok (.return_, 1) := by decide +kernel
theorem dX8_good_0 : decode cX8_good 0 = .ok (.aload_n 0, 1) := by decide +kernel
theorem dX8_good_1 : decode cX8_good 1 = .ok (.getfield 217, 3) := by decide +kernel
theorem dX8_good_4 : decode cX8_good 4 = .ok (.ifCond .ne 7, 3) := by decide +kernel
theorem dX8_good_7 : decode cX8_good 7 = .ok (.iconst 1, 1) := by decide +kernel
theorem dX8_good_8 : decode cX8_good 8 = .ok (.goto 4, 3) := by decide +kernel
theorem dX8_good_11 : decode cX8_good 11 = .ok (.iconst 0, 1) := by decide +kernel
theorem dX8_good_12 : decode cX8_good 12 = .ok (.ireturn, 1) := by decide +kernel
set_option maxRecDepth 20000 in
theorem ggX8_advance_X8_good : GoodIn wsX8_advance wsX8_good := goodIn_r _ [5, 6, 25, 26, 27, 28, 29, 30, 31, 32, 33, 34, 35, 36, 37, 38, 39, 40, 41, 42, 43, 44, 45, 46, 47, 48, 49, 50, 51, 52, 53] (by decide +kernel) (by decide +kernel)
set_option maxRecDepth 20000 in
theorem gX8_advance_X8_good : GoodIn wsX8_advance (wsV RX8 232 RX8 yX8_good wsX8_good) := goodIn_app (goodIn_of _ (by decide +kernel)) ggX8_advance_X8_good
set_option maxRecDepth 20000 in
theorem ggX8_advance_X8_scan : GoodIn wsX8_advance wsX8_scan := goodIn_r _ [10, 11, 12, 13, 14, 15, 16, 17, 18, 19, 4, 20, 21, 22, 23, 24, 25, 26, 27, 28, 29, 30, 31, 32, 33, 34, 35, 36, 37, 38, 39, 40, 41, 42, 43, 44, 45, 46, 47, 48, 49, 50, 51, 52, 53] (by decide +kernel) (by decide +kernel)
set_option maxRecDepth 20000 in
theorem gX8_advance_X8_scan : GoodIn wsX8_advance (wsV RX8 236 RX8 yX8_scan wsX8_scan) := goodIn_app (goodIn_of _ (by decide +kernel)) ggX8_advance_X8_scan
theorem dX8_advance_0 : decode cX8_advance 0 = .ok (.aload_n 0, 1) := by decide +kernel
theorem dX8_advance_1 : decode cX8_advance 1 = .ok (.invokevirtual 232, 3) := by decide +kernel
theorem dX8_advance_4 : decode cX8_advance 4 = .ok (.ifCond .eq 7, 3) := by decide +kernel
theorem dX8_advance_7 : decode cX8_advance 7 = .ok (.aload_n 0, 1) := by decide +kernel
theorem dX8_advance_8 : decode cX8_advance 8 = .ok (.invokevirtual 236, 3) := by decide +kernel
theorem dX8_advance_11 : decode cX8_advance 11 = .ok (.return_, 1) := by decide +kernel
set_option maxRecDepth 20000 in
theorem ggX8_number_X8_fail : GoodIn wsX8_number wsX8_fail := goodIn_r _ [7, 8, 9, 10, 34, 35, 36, 37, 38, 39, 40, 41, 42, 43, 44, 45, 46, 47, 48, 49, 50, 51, 52, 53, 54, 55, 56, 57, 58, 59, 60, 61, 62] (by decide +kernel) (by decide +kernel)
set_option maxRecDepth 20000 in
theorem gX8_number_X8_fail : GoodIn wsX8_number (wsV RX8 239 RX8 yX8_fail wsX8_fail) := goodIn_app (goodIn_of _ (by decide +kernel)) ggX8_number_X8_fail
set_option maxRecDepth 20000 in
theorem ggX8_number_X8_advance : GoodIn wsX8_number wsX8_advance := goodIn_r _ [14, 15, 16, 17, 6, 18, 8, 19, 20, 21, 22, 23, 24, 25, 9, 1, 2, 26, 27, 28, 29, 30, 31, 32, 33, 34, 35, 36, 37, 38, 39, 40, 41, 42, 43, 44, 45, 46, 47, 48, 49, 50, 51, 52, 53, 54, 55, 56, 57, 58, 59, 60, 61, 62] (by decide +kernel) (by decide +kernel)
set_option maxRecDepth 20000 in
theorem gX8_number_X8_advance : GoodIn wsX8_number (wsV RX8 242 RX8 yX8_advance wsX8_advance) := goodIn_app (goodIn_of _ (by decide +kernel)) ggX8_number_X8_advance
set_option maxRecDepth 20000 in
theorem ggX8_number_X8_good : GoodIn wsX8_number wsX8_good := goodIn_r _ [18, 8, 34, 35, 36, 37, 38, 39, 40, 41, 42, 43, 44, 45, 46, 47, 48, 49, 50, 51, 52, 53, 54, 55, 56, 57, 58, 59, 60, 61, 62] (by decide +kernel) (by decide +kernel)
set_option maxRecDepth 20000 in
theorem gX8_number_X8_good : GoodIn wsX8_number (wsV RX8 232 RX8 yX8_good wsX8_good) := goodIn_app (goodIn_of _ (by decide +kernel)) ggX8_number_X8_good
theorem dX8_number_0 : decode cX8_number 0 = .ok (.aload_n 0, 1) := by decide +kernel
theorem dX8_number_1 : decode cX8_number 1 = .ok (.getfield 205, 3) := by decide +kernel
theorem dX8_number_4 : decode cX8_number 4 = .ok (.iconst 2, 1) := by decide +kernel
theorem dX8_number_5 : decode cX8_number 5 = .ok (.if_icmp .eq 11, 3) := by decide +kernel
theorem dX8_number_8 : decode cX8_number 8 = .ok (.aload_n 0, 1) := by decide +kernel
theorem dX8_number_9 : decode cX8_number 9 = .ok (.iconst 1, 1) := by decide +kernel
theorem dX8_number_10 : decode cX8_number 10 = .ok (.invokevirtual 239, 3) := by decide +kernel
theorem dX8_number_13 : decode cX8_number 13 = .ok (.goto 24, 3) := by decide +kernel
theorem dX8_number_16 : decode cX8_number 16 = .ok (.aload_n 0, 1) := by decide +kernel
theorem dX8_number_17 : decode cX8_number 17 = .ok (.getfield 214, 3) := by decide +kernel
theorem dX8_number_20 : decode cX8_number 20 = .ok (.iload_n 1, 1) := by decide +kernel
theorem dX8_number_21 : decode cX8_number 21 = .ok (.if_icmp .lt 11, 3) := by decide +kernel
theorem dX8_number_24 : decode cX8_number 24 = .ok (.aload_n 0, 1) := by decide +kernel
theorem dX8_number_25 : decode cX8_number 25 = .ok (.getfield 214, 3) := by decide +kernel
theorem dX8_number_28 : decode cX8_number 28 = .ok (.iload_n 2, 1) := by decide +kernel
theorem dX8_number_29 : decode cX8_number 29 = .ok (.if_icmp .le 8, 3) := by decide +kernel
theorem dX8_number_32 : decode cX8_number 32 = .ok (.aload_n 0, 1) := by decide +kernel
theorem dX8_number_33 : decode cX8_number 33 = .ok (.iconst 2, 1) := by decide +kernel
theorem dX8_number_34 : decode cX8_number 34 = .ok (.invokevirtual 239, 3) := by decide +kernel
theorem dX8_number_37 : decode cX8_number 37 = .ok (.aload_n 0, 1) := by decide +kernel
theorem dX8_number_38 : decode cX8_number 38 = .ok (.getfield 214, 3) := by decide +kernel
theorem dX8_number_41 : decode cX8_number 41 = .ok (.istore_n 3, 1) := by decide +kernel
theorem dX8_number_42 : decode cX8_number 42 = .ok (.aload_n 0, 1) := by decide +kernel
theorem dX8_number_43 : decode cX8_number 43 = .ok (.invokevirtual 242, 3) := by decide +kernel
theorem dX8_number_46 : decode cX8_number 46 = .ok (.aload_n 0, 1) := by decide +kernel
theorem dX8_number_47 : decode cX8_number 47 = .ok (.invokevirtual 232, 3) := by decide +kernel
theorem dX8_number_50 : decode cX8_number 50 = .ok (.ifCond .eq 7, 3) := by decide +kernel
theorem dX8_number_53 : decode cX8_number 53 = .ok (.iload_n 3, 1) := by decide +kernel
theorem dX8_number_54 : decode cX8_number 54 = .ok (.goto 4, 3) := by decide +kernel
theorem dX8_number_57 : decode cX8_number 57 = .ok (.iconst 0, 1) := by decide +kernel
theorem dX8_number_58 : decode cX8_number 58 = .ok (.ireturn, 1) := by decide +kernel
set_option maxRecDepth 20000 in
theorem ggX8_aLoan_X8_number : GoodIn wsX8_aLoan wsX8_number := goodIn_r _ [6, 7, 8, 9, 10, 11, 5, 12, 13, 14, 15, 16, 17, 18, 19, 20, 21, 22, 23, 24, 25, 26, 27, 28, 29, 30, 31, 32, 33, 34, 35, 36, 37, 38, 39, 40, 41, 42, 43, 44, 45, 46, 47, 48, 49, 50, 51, 52, 53, 54, 55, 56, 57, 58, 59, 60, 61, 62, 63, 64, 65, 66, 67] (by decide +kernel) (by decide +kernel)
set_option maxRecDepth 20000 in
theorem gX8_aLoan_X8_number : GoodIn wsX8_aLoan (wsV RX8 245 RX8 yX8_number wsX8_number) := goodIn_app (goodIn_of _ (by decide +kernel)) ggX8_aLoan_X8_number
theorem dX8_aLoan_0 : decode cX8_aLoan 0 = .ok (.aload_n 0, 1) := by decide +kernel
theorem dX8_aLoan_1 : decode cX8_aLoan 1 = .ok (.iconst 0, 1) := by decide +kernel
theorem dX8_aLoan_2 : decode cX8_aLoan 2 = .ok (.aload_n 0, 1) := by decide +kernel
theorem dX8_aLoan_3 : decode cX8_aLoan 3 = .ok (.getfield 9, 3) := by decide +kernel
theorem dX8_aLoan_6 : decode cX8_aLoan 6 = .ok (.iconst 0, 1) := by decide +kernel
theorem dX8_aLoan_7 : decode cX8_aLoan 7 = .ok (.iaload, 1) := by decide +kernel
theorem dX8_aLoan_8 : decode cX8_aLoan 8 = .ok (.iconst 1, 1) := by decide +kernel
theorem dX8_aLoan_9 : decode cX8_aLoan 9 = .ok (.isub, 1) := by decide +kernel
theorem dX8_aLoan_10 : decode cX8_aLoan 10 = .ok (.invokevirtual 245, 3) := by decide +kernel
theorem dX8_aLoan_13 : decode cX8_aLoan 13 = .ok (.ireturn, 1) := by decide +kernel
set_option maxRecDepth 20000 in
theorem ggX8_ends_X8_fail : GoodIn wsX8_ends wsX8_fail := goodIn_r _ [6, 7, 8, 9, 14, 15, 16, 17, 18, 19, 20, 21, 22, 23, 24, 25, 26, 27, 28, 29, 30, 31, 32, 33, 34, 35, 36, 37, 38, 39, 40, 41, 42] (by decide +kernel) (by decide +kernel)
set_option maxRecDepth 20000 in
theorem gX8_ends_X8_fail : GoodIn wsX8_ends (wsV RX8 239 RX8 yX8_fail wsX8_fail) := goodIn_app (goodIn_of _ (by decide +kernel)) ggX8_ends_X8_fail
set_option maxRecDepth 20000 in
theorem ggX8_ends_X8_good : GoodIn wsX8_ends wsX8_good := goodIn_r _ [13, 7, 14, 15, 16, 17, 18, 19, 20, 21, 22, 23, 24, 25, 26, 27, 28, 29, 30, 31, 32, 33, 34, 35, 36, 37, 38, 39, 40, 41, 42] (by decide +kernel) (by decide +kernel)
set_option maxRecDepth 20000 in
theorem gX8_ends_X8_good : GoodIn wsX8_ends (wsV RX8 232 RX8 yX8_good wsX8_good) := goodIn_app (goodIn_of _ (by decide +kernel)) ggX8_ends_X8_good
theorem dX8_ends_0 : decode cX8_ends 0 = .ok (.aload_n 0, 1) := by decide +kernel
theorem dX8_ends_1 : decode cX8_ends 1 = .ok (.getfield 205, 3) := by decide +kernel
theorem dX8_ends_4 : decode cX8_ends 4 = .ok (.iconst 1, 1) := by decide +kernel
theorem dX8_ends_5 : decode cX8_ends 5 = .ok (.if_icmp .eq 8, 3) := by decide +kernel
theorem dX8_ends_8 : decode cX8_ends 8 = .ok (.aload_n 0, 1) := by decide +kernel
theorem dX8_ends_9 : decode cX8_ends 9 = .ok (.iconst 1, 1) := by decide +kernel
theorem dX8_ends_10 : decode cX8_ends 10 = .ok (.invokevirtual 239, 3) := by decide +kernel
theorem dX8_ends_13 : decode cX8_ends 13 = .ok (.iload_n 1, 1) := by decide +kernel
theorem dX8_ends_14 : decode cX8_ends 14 = .ok (.ifCond .ne 8, 3) := by decide +kernel
theorem dX8_ends_17 : decode cX8_ends 17 = .ok (.aload_n 0, 1) := by decide +kernel
theorem dX8_ends_18 : decode cX8_ends 18 = .ok (.iconst 3, 1) := by decide +kernel
theorem dX8_ends_19 : decode cX8_ends 19 = .ok (.invokevirtual 239, 3) := by decide +kernel
theorem dX8_ends_22 : decode cX8_ends 22 = .ok (.aload_n 0, 1) := by decide +kernel
theorem dX8_ends_23 : decode cX8_ends 23 = .ok (.invokevirtual 232, 3) := by decide +kernel
theorem dX8_ends_26 : decode cX8_ends 26 = .ok (.ireturn, 1) := by decide +kernel
set_option maxRecDepth 20000 in
theorem ggX8_runScript_X8_copy : GoodIn wsX8_runScript wsX8_copy := goodIn_r _ [16] (by decide +kernel) (by decide +kernel)
set_option maxRecDepth 20000 in
theorem gX8_runScript_X8_copy : GoodIn wsX8_runScript (va_wsS RX8 62 yX8_copy wsX8_copy) := goodIn_app (goodIn_of _ (by decide +kernel)) ggX8_runScript_X8_copy
set_option maxRecDepth 20000 in
theorem ggX8_runScript_X8_scan : GoodIn wsX8_runScript wsX8_scan := goodIn_r _ [20, 4, 10, 21, 22, 9, 23, 24, 25, 26, 15, 27, 28, 29, 30, 31, 253, 254, 255, 256, 257, 258, 259, 260, 261, 262, 263, 264, 265, 266, 267, 268, 269, 270, 271, 272, 273, 274, 275, 276, 277, 278, 279, 280, 281] (by decide +kernel) (by decide +kernel)
set_option maxRecDepth 20000 in
theorem gX8_runScript_X8_scan : GoodIn wsX8_runScript (wsV RX8 236 RX8 yX8_scan wsX8_scan) := goodIn_app (goodIn_of _ (by decide +kernel)) ggX8_runScript_X8_scan
set_option maxRecDepth 20000 in
theorem ggX8_runScript_X8_isWord : GoodIn wsX8_runScript wsX8_isWord := goodIn_r _ [35, 5, 9, 4, 22, 21, 36, 37, 38, 39, 40, 41, 42, 43, 44, 45, 46, 47, 48, 49, 50, 51, 52, 53, 54, 55, 56, 57, 58, 59, 60, 61, 62, 63, 64, 65, 66, 67, 68, 69, 70, 71, 72, 73, 74, 75, 76, 77, 78, 79, 80, 81, 82, 83, 84, 253, 254, 255, 256, 257, 258, 259, 260, 261, 262, 263, 264, 265, 266, 267, 268, 269, 270, 271, 272, 273, 274, 275, 276, 277, 278, 279, 280, 281] (by decide +kernel) (by decide +kernel)
set_option maxRecDepth 20000 in
theorem gX8_runScript_X8_isWord : GoodIn wsX8_runScript (wsV RX8 256 RX8 yX8_isWord wsX8_isWord) := goodIn_app (goodIn_of _ (by decide +kernel)) ggX8_runScript_X8_isWord
set_option maxRecDepth 20000 in
theorem ggX8_runScript_X8_fail : GoodIn wsX8_runScript wsX8_fail := goodIn_r _ [88, 5, 22, 6, 253, 254, 255, 256, 257, 258, 259, 260, 261, 262, 263, 264, 265, 266, 267, 268, 269, 270, 271, 272, 273, 274, 275, 276, 277, 278, 279, 280, 281] (by decide +kernel) (by decide +kernel)
set_option maxRecDepth 20000 in
theorem gX8_runScript_X8_fail : GoodIn wsX8_runScript (wsV RX8 239 RX8 yX8_fail wsX8_fail) := goodIn_app (goodIn_of _ (by decide +kernel)) ggX8_runScript_X8_fail
set_option maxRecDepth 20000 in
theorem ggX8_runScript_X8_advance : GoodIn wsX8_runScript wsX8_advance := goodIn_r _ [92, 93, 94, 95, 15, 96, 5, 17, 18, 19, 20, 4, 10, 21, 22, 9, 23, 24, 25, 26, 27, 28, 29, 30, 31, 253, 254, 255, 256, 257, 258, 259, 260, 261, 262, 263, 264, 265, 266, 267, 268, 269, 270, 271, 272, 273, 274, 275, 276, 277, 278, 279, 280, 281] (by decide +kernel) (by decide +kernel)
set_option maxRecDepth 20000 in
theorem gX8_runScript_X8_advance : GoodIn wsX8_runScript (wsV RX8 242 RX8 yX8_advance wsX8_advance) := goodIn_app (goodIn_of _ (by decide +kernel)) ggX8_runScript_X8_advance
set_option maxRecDepth 20000 in
theorem ggX8_runScript_X8_ends : GoodIn wsX8_runScript wsX8_ends := goodIn_r _ [100, 9, 85, 86, 87, 15, 88, 5, 22, 6, 93, 94, 95, 96, 253, 254, 255, 256, 257, 258, 259, 260, 261, 262, 263, 264, 265, 266, 267, 268, 269, 270, 271, 272, 273, 274, 275, 276, 277, 278, 279, 280, 281] (by decide +kernel) (by decide +kernel)
set_option maxRecDepth 20000 in
theorem gX8_runScript_X8_ends : GoodIn wsX8_runScript (wsV RX8 260 RX8 yX8_ends wsX8_ends) := goodIn_app (goodIn_of _ (by decide +kernel)) ggX8_runScript_X8_ends
set_option maxRecDepth 20000 in
theorem ggX8_runScript_X8_start : GoodIn wsX8_runScript wsX8_start := goodIn_r _ [104, 2, 253, 254, 255, 256, 257, 258, 259, 260, 261, 262, 263, 264, 265, 266, 267, 268, 269, 270, 271, 272, 273, 274, 275, 276, 277, 278, 279, 280, 281] (by decide +kernel) (by decide +kernel)
set_option maxRecDepth 20000 in
theorem gX8_runScript_X8_start : GoodIn wsX8_runScript (wsV RX8 264 RX8 yX8_start wsX8_start) := goodIn_app (goodIn_of _ (by decide +kernel)) ggX8_runScript_X8_start
set_option maxRecDepth 20000 in
theorem ggX8_runScript_X8_good : GoodIn wsX8_runScript wsX8_good := goodIn_r _ [96, 5, 253, 254, 255, 256, 257, 258, 259, 260, 261, 262, 263, 264, 265, 266, 267, 268, 269, 270, 271, 272, 273, 274, 275, 276, 277, 278, 279, 280, 281] (by decide +kernel) (by decide +kernel)
set_option maxRecDepth 20000 in
theorem gX8_runScript_X8_good : GoodIn wsX8_runScript (wsV RX8 232 RX8 yX8_good wsX8_good) := goodIn_app (goodIn_of _ (by decide +kernel)) ggX8_runScript_X8_good
set_option maxRecDepth 20000 in
theorem ggX8_runScript_X8_command : GoodIn wsX8_runScript wsX8_command := goodIn_r _ [108, 8, 32, 33, 34, 15, 35, 5, 9, 4, 22, 21, 36, 37, 38, 39, 40, 41, 42, 43, 44, 45, 46, 47, 48, 49, 50, 51, 52, 53, 54, 55, 56, 57, 58, 59, 60, 61, 62, 63, 64, 65, 66, 67, 68, 69, 70, 71, 72, 73, 74, 75, 76, 77, 78, 79, 80, 81, 82, 83, 84, 109, 110, 111, 112, 113, 114, 115, 85, 86, 87, 88, 6, 93, 94, 95, 96, 116, 117, 118, 119, 120, 2, 17, 18, 19, 20, 10, 23, 24, 25, 26, 27, 28, 29, 30, 31, 121, 122, 123, 124, 89, 90, 91, 92, 97, 98, 99, 100, 125, 126, 127, 128, 129, 130, 131, 132, 133, 134, 135, 136, 137, 138, 139, 140, 141, 142, 143, 144, 145, 146, 147, 148, 149, 150, 151, 152, 153, 154, 155, 156, 157, 158, 159, 160, 161, 162, 163, 164, 165, 166, 167, 168, 169, 170, 171, 172, 173, 174, 175, 176, 177, 178, 179, 180, 181, 182, 183, 184, 185, 186, 187, 188, 189, 190, 191, 192, 193, 194, 195, 196, 197, 198, 199, 200, 201, 202, 203, 204, 205, 206, 207, 208, 209, 210, 211, 212, 213, 214, 215, 216, 217, 218, 219, 220, 221, 222, 223, 224, 225, 226, 227, 228, 229, 230, 231, 232, 233, 234, 235, 236, 237, 238, 239, 240, 241, 242, 243, 244, 245, 246, 7, 105, 106, 107, 253, 254, 255, 256, 257, 258, 259, 260, 261, 262, 263, 264, 265, 266, 267, 268, 269, 270, 271, 272, 273, 274, 275, 276, 277, 278, 279, 280, 281] (by decide +kernel) (by decide +kernel)
set_option maxRecDepth 20000 in
theorem gX8_runScript_X8_command : GoodIn wsX8_runScript (wsV RX8 267 RX8 yX8_command wsX8_command) := goodIn_app (goodIn_of _ (by decide +kernel)) ggX8_runScript_X8_command
set_option maxRecDepth 20000 in
theorem ggX8_runScript_X8_remember : GoodIn wsX8_runScript wsX8_remember := goodIn_r _ [250, 251, 252, 13, 14, 15, 16, 253, 254, 255, 256, 257, 258, 259, 260, 261, 262, 263, 264, 265, 266, 267, 268, 269, 270, 271, 272, 273, 274, 275, 276, 277, 278, 279, 280, 281] (by decide +kernel) (by decide +kernel)
set_option maxRecDepth 20000 in
theorem gX8_runScript_X8_remember : GoodIn wsX8_runScript (wsV RX8 159 RX8 yX8_remember wsX8_remember) := goodIn_app (goodIn_of _ (by decide +kernel)) ggX8_runScript_X8_remember
theorem dX8_runScript_0 : decode cX8_runScript 0 = .ok (.aload_n 0, 1) := by decide +kernel
theorem dX8_runScript_1 : decode cX8_runScript 1 = .ok (.iconst 0, 1) := by decide +kernel
theorem dX8_runScript_2 : decode cX8_runScript 2 = .ok (.putfield 56, 3) := by decide +kernel
theorem dX8_runScript_5 : decode cX8_runScript 5 = .ok (.aload_n 0, 1) := by decide +kernel
theorem dX8_runScript_6 : decode cX8_runScript 6 = .ok (.getfield 9, 3) := by decide +kernel
theorem dX8_runScript_9 : decode cX8_runScript 9 = .ok (.aload_n 0, 1) := by decide +kernel
theorem dX8_runScript_10 : decode cX8_runScript 10 = .ok (.getfield 21, 3) := by decide +kernel
theorem dX8_runScript_13 : decode cX8_runScript 13 = .ok (.invokestatic 62, 3) := by decide +kernel
theorem dX8_runScript_16 : decode cX8_runScript 16 = .ok (.aload_n 0, 1) := by decide +kernel
theorem dX8_runScript_17 : decode cX8_runScript 17 = .ok (.iconst 0, 1) := by decide +kernel
theorem dX8_runScript_18 : decode cX8_runScript 18 = .ok (.putfield 199, 3) := by decide +kernel
theorem dX8_runScript_21 : decode cX8_runScript 21 = .ok (.aload_n 0, 1) := by decide +kernel
theorem dX8_runScript_22 : decode cX8_runScript 22 = .ok (.iconst 0, 1) := by decide +kernel
theorem dX8_runScript_23 : decode cX8_runScript 23 = .ok (.putfield 217, 3) := by decide +kernel
theorem dX8_runScript_26 : decode cX8_runScript 26 = .ok (.aload_n 0, 1) := by decide +kernel
theorem dX8_runScript_27 : decode cX8_runScript 27 = .ok (.iconst (-1), 1) := by decide +kernel
theorem dX8_runScript_28 : decode cX8_runScript 28 = .ok (.putfield 229, 3) := by decide +kernel
theorem dX8_runScript_31 : decode cX8_runScript 31 = .ok (.aload_n 0, 1) := by decide +kernel
theorem dX8_runScript_32 : decode cX8_runScript 32 = .ok (.iconst 0, 1) := by decide +kernel
theorem dX8_runScript_33 : decode cX8_runScript 33 = .ok (.putfield 248, 3) := by decide +kernel
theorem dX8_runScript_36 : decode cX8_runScript 36 = .ok (.aload_n 0, 1) := by decide +kernel
theorem dX8_runScript_37 : decode cX8_runScript 37 = .ok (.iconst 0, 1) := by decide +kernel
theorem dX8_runScript_38 : decode cX8_runScript 38 = .ok (.putfield 251, 3) := by decide +kernel
theorem dX8_runScript_41 : decode cX8_runScript 41 = .ok (.aload_n 0, 1) := by decide +kernel
theorem dX8_runScript_42 : decode cX8_runScript 42 = .ok (.invokevirtual 236, 3) := by decide +kernel
theorem dX8_runScript_45 : decode cX8_runScript 45 = .ok (.aload_n 0, 1) := by decide +kernel
theorem dX8_runScript_46 : decode cX8_runScript 46 = .ok (.ldc 254, 2) := by decide +kernel
theorem dX8_runScript_48 : decode cX8_runScript 48 = .ok (.invokevirtual 256, 3) := by decide +kernel
theorem dX8_runScript_51 : decode cX8_runScript 51 = .ok (.ifCond .ne 8, 3) := by decide +kernel
theorem dX8_runScript_54 : decode cX8_runScript 54 = .ok (.aload_n 0, 1) := by decide +kernel
theorem dX8_runScript_55 : decode cX8_runScript 55 = .ok (.iconst 1, 1) := by decide +kernel
theorem dX8_runScript_56 : decode cX8_runScript 56 = .ok (.invokevirtual 239, 3) := by decide +kernel
theorem dX8_runScript_59 : decode cX8_runScript 59 = .ok (.aload_n 0, 1) := by decide +kernel
theorem dX8_runScript_60 : decode cX8_runScript 60 = .ok (.invokevirtual 242, 3) := by decide +kernel
theorem dX8_runScript_63 : decode cX8_runScript 63 = .ok (.aload_n 0, 1) := by decide +kernel
theorem dX8_runScript_64 : decode cX8_runScript 64 = .ok (.iconst 1, 1) := by decide +kernel
theorem dX8_runScript_65 : decode cX8_runScript 65 = .ok (.invokevirtual 260, 3) := by decide +kernel
theorem dX8_runScript_68 : decode cX8_runScript 68 = .ok (.ifCond .eq 7, 3) := by decide +kernel
theorem dX8_runScript_71 : decode cX8_runScript 71 = .ok (.aload_n 0, 1) := by decide +kernel
theorem dX8_runScript_72 : decode cX8_runScript 72 = .ok (.invokevirtual 264, 3) := by decide +kernel
theorem dX8_runScript_75 : decode cX8_runScript 75 = .ok (.aload_n 0, 1) := by decide +kernel
theorem dX8_runScript_76 : decode cX8_runScript 76 = .ok (.invokevirtual 242, 3) := by decide +kernel
theorem dX8_runScript_79 : decode cX8_runScript 79 = .ok (.aload_n 0, 1) := by decide +kernel
theorem dX8_runScript_80 : decode cX8_runScript 80 = .ok (.invokevirtual 232, 3) := by decide +kernel
theorem dX8_runScript_83 : decode cX8_runScript 83 = .ok (.ifCond .eq 21, 3) := by decide +kernel
theorem dX8_runScript_86 : decode cX8_runScript 86 = .ok (.aload_n 0, 1) := by decide +kernel
theorem dX8_runScript_87 : decode cX8_runScript 87 = .ok (.getfield 205, 3) := by decide +kernel
theorem dX8_runScript_90 : decode cX8_runScript 90 = .ok (.ifCond .eq 14, 3) := by decide +kernel
theorem dX8_runScript_93 : decode cX8_runScript 93 = .ok (.aload_n 0, 1) := by decide +kernel
theorem dX8_runScript_94 : decode cX8_runScript 94 = .ok (.invokevirtual 267, 3) := by decide +kernel
theorem dX8_runScript_97 : decode cX8_runScript 97 = .ok (.aload_n 0, 1) := by decide +kernel
theorem dX8_runScript_98 : decode cX8_runScript 98 = .ok (.invokevirtual 242, 3) := by decide +kernel
theorem dX8_runScript_101 : decode cX8_runScript 101 = .ok (.goto (-22), 3) := by decide +kernel
theorem dX8_runScript_104 : decode cX8_runScript 104 = .ok (.aload_n 0, 1) := by decide +kernel
theorem dX8_runScript_105 : decode cX8_runScript 105 = .ok (.iconst 0, 1) := by decide +kernel
theorem dX8_runScript_106 : decode cX8_runScript 106 = .ok (.putfield 196, 3) := by decide +kernel
theorem dX8_runScript_109 : decode cX8_runScript 109 = .ok (.aload_n 0, 1) := by decide +kernel
theorem dX8_runScript_110 : decode cX8_runScript 110 = .ok (.aload_n 0, 1) := by decide +kernel
theorem dX8_runScript_111 : decode cX8_runScript 111 = .ok (.getfield 217, 3) := by decide +kernel
theorem dX8_runScript_114 : decode cX8_runScript 114 = .ok (.putfield 270, 3) := by decide +kernel
theorem dX8_runScript_117 : decode cX8_runScript 117 = .ok (.aload_n 0, 1) := by decide +kernel
theorem dX8_runScript_118 : decode cX8_runScript 118 = .ok (.aload_n 0, 1) := by decide +kernel
theorem dX8_runScript_119 : decode cX8_runScript 119 = .ok (.getfield 229, 3) := by decide +kernel
theorem dX8_runScript_122 : decode cX8_runScript 122 = .ok (.putfield 34, 3) := by decide +kernel
theorem dX8_runScript_125 : decode cX8_runScript 125 = .ok (.aload_n 0, 1) := by decide +kernel
theorem dX8_runScript_126 : decode cX8_runScript 126 = .ok (.invokevirtual 232, 3) := by decide +kernel
theorem dX8_runScript_129 : decode cX8_runScript 129 = .ok (.ifCond .ne 16, 3) := by decide +kernel
theorem dX8_runScript_132 : decode cX8_runScript 132 = .ok (.aload_n 0, 1) := by decide +kernel
theorem dX8_runScript_133 : decode cX8_runScript 133 = .ok (.getfield 21, 3) := by decide +kernel
theorem dX8_runScript_136 : decode cX8_runScript 136 = .ok (.aload_n 0, 1) := by decide +kernel
theorem dX8_runScript_137 : decode cX8_runScript 137 = .ok (.getfield 9, 3) := by decide +kernel
theorem dX8_runScript_140 : decode cX8_runScript 140 = .ok (.invokestatic 62, 3) := by decide +kernel
theorem dX8_runScript_143 : decode cX8_runScript 143 = .ok (.iconst (-1), 1) := by decide +kernel
theorem dX8_runScript_144 : decode cX8_runScript 144 = .ok (.ireturn, 1) := by decide +kernel
theorem dX8_runScript_145 : decode cX8_runScript 145 = .ok (.aload_n 0, 1) := by decide +kernel
theorem dX8_runScript_146 : decode cX8_runScript 146 = .ok (.aload_n 0, 1) := by decide +kernel
theorem dX8_runScript_147 : decode cX8_runScript 147 = .ok (.getfield 21, 3) := by decide +kernel
theorem dX8_runScript_150 : decode cX8_runScript 150 = .ok (.invokevirtual 159, 3) := by decide +kernel
theorem dX8_runScript_153 : decode cX8_runScript 153 = .ok (.aload_n 0, 1) := by decide +kernel
theorem dX8_runScript_154 : decode cX8_runScript 154 = .ok (.getfield 9, 3) := by decide +kernel
theorem dX8_runScript_157 : decode cX8_runScript 157 = .ok (.iconst 0, 1) := by decide +kernel
theorem dX8_runScript_158 : decode cX8_runScript 158 = .ok (.iaload, 1) := by decide +kernel
theorem dX8_runScript_159 : decode cX8_runScript 159 = .ok (.ireturn, 1) := by decide +kernel
set_option maxRecDepth 20000 in
theorem ggX8_isCommand_X8_isWord : GoodIn wsX8_isCommand wsX8_isWord := goodIn_r _ [5, 6, 7, 8, 9, 10, 11, 12, 13, 14, 15, 16, 17, 18, 19, 20, 21, 22, 23, 24, 25, 26, 27, 28, 29, 30, 31, 32, 33, 34, 35, 36, 37, 38, 39, 40, 41, 42, 43, 44, 45, 46, 47, 48, 49, 50, 51, 52, 53, 54, 55, 56, 57, 58, 59, 60, 61, 62, 63, 64, 65, 66, 67, 68, 69, 70, 71, 72, 73, 74, 75, 76, 77, 78, 79, 80, 81, 82, 83, 84, 85, 86, 87, 88] (by decide +kernel) (by decide +kernel)
set_option maxRecDepth 20000 in
theorem gX8_isCommand_X8_isWord : GoodIn wsX8_isCommand (wsV RX8 256 RX8 yX8_isWord wsX8_isWord) := goodIn_app (goodIn_of _ (by decide +kernel)) ggX8_isCommand_X8_isWord
theorem dX8_isCommand_0 : decode cX8_isCommand 0 = .ok (.aload_n 0, 1) := by decide +kernel
theorem dX8_isCommand_1 : decode cX8_isCommand 1 = .ok (.ldc_w 273, 3) := by decide +kernel
theorem dX8_isCommand_4 : decode cX8_isCommand 4 = .ok (.invokevirtual 256, 3) := by decide +kernel
theorem dX8_isCommand_7 : decode cX8_isCommand 7 = .ok (.ifCond .ne 33, 3) := by decide +kernel
theorem dX8_isCommand_10 : decode cX8_isCommand 10 = .ok (.aload_n 0, 1) := by decide +kernel
theorem dX8_isCommand_11 : decode cX8_isCommand 11 = .ok (.ldc_w 275, 3) := by decide +kernel
theorem dX8_isCommand_14 : decode cX8_isCommand 14 = .ok (.invokevirtual 256, 3) := by decide +kernel
theorem dX8_isCommand_17 : decode cX8_isCommand 17 = .ok (.ifCond .ne 23, 3) := by decide +kernel
theorem dX8_isCommand_20 : decode cX8_isCommand 20 = .ok (.aload_n 0, 1) := by decide +kernel
theorem dX8_isCommand_21 : decode cX8_isCommand 21 = .ok (.ldc_w 277, 3) := by decide +kernel
theorem dX8_isCommand_24 : decode cX8_isCommand 24 = .ok (.invokevirtual 256, 3) := by decide +kernel
theorem dX8_isCommand_27 : decode cX8_isCommand 27 = .ok (.ifCond .ne 13, 3) := by decide +kernel
theorem dX8_isCommand_30 : decode cX8_isCommand 30 = .ok (.aload_n 0, 1) := by decide +kernel
theorem dX8_isCommand_31 : decode cX8_isCommand 31 = .ok (.ldc_w 279, 3) := by decide +kernel
theorem dX8_isCommand_34 : decode cX8_isCommand 34 = .ok (.invokevirtual 256, 3) := by decide +kernel
theorem dX8_isCommand_37 : decode cX8_isCommand 37 = .ok (.ifCond .eq 7, 3) := by decide +kernel
theorem dX8_isCommand_40 : decode cX8_isCommand 40 = .ok (.iconst 1, 1) := by decide +kernel
theorem dX8_isCommand_41 : decode cX8_isCommand 41 = .ok (.goto 4, 3) := by decide +kernel
theorem dX8_isCommand_44 : decode cX8_isCommand 44 = .ok (.iconst 0, 1) := by decide +kernel
theorem dX8_isCommand_45 : decode cX8_isCommand 45 = .ok (.istore_n 1, 1) := by decide +kernel
theorem dX8_isCommand_46 : decode cX8_isCommand 46 = .ok (.iload_n 1, 1) := by decide +kernel
theorem dX8_isCommand_47 : decode cX8_isCommand 47 = .ok (.ifCond .ne 33, 3) := by decide +kernel
theorem dX8_isCommand_50 : decode cX8_isCommand 50 = .ok (.aload_n 0, 1) := by decide +kernel
theorem dX8_isCommand_51 : decode cX8_isCommand 51 = .ok (.ldc_w 280, 3) := by decide +kernel
theorem dX8_isCommand_54 : decode cX8_isCommand 54 = .ok (.invokevirtual 256, 3) := by decide +kernel
theorem dX8_isCommand_57 : decode cX8_isCommand 57 = .ok (.ifCond .ne 23, 3) := by decide +kernel
theorem dX8_isCommand_60 : decode cX8_isCommand 60 = .ok (.aload_n 0, 1) := by decide +kernel
theorem dX8_isCommand_61 : decode cX8_isCommand 61 = .ok (.ldc_w 281, 3) := by decide +kernel
theorem dX8_isCommand_64 : decode cX8_isCommand 64 = .ok (.invokevirtual 256, 3) := by decide +kernel
theorem dX8_isCommand_67 : decode cX8_isCommand 67 = .ok (.ifCond .ne 13, 3) := by decide +kernel
theorem dX8_isCommand_70 : decode cX8_isCommand 70 = .ok (.aload_n 0, 1) := by decide +kernel
theorem dX8_isCommand_71 : decode cX8_isCommand 71 = .ok (.ldc_w 283, 3) := by decide +kernel
theorem dX8_isCommand_74 : decode cX8_isCommand 74 = .ok (.invokevirtual 256, 3) := by decide +kernel
theorem dX8_isCommand_77 : decode cX8_isCommand 77 = .ok (.ifCond .eq 7, 3) := by decide +kernel
theorem dX8_isCommand_80 : decode cX8_isCommand 80 = .ok (.iconst 1, 1) := by decide +kernel
theorem dX8_isCommand_81 : decode cX8_isCommand 81 = .ok (.goto 4, 3) := by decide +kernel
theorem dX8_isCommand_84 : decode cX8_isCommand 84 = .ok (.iconst 0, 1) := by decide +kernel
theorem dX8_isCommand_85 : decode cX8_isCommand 85 = .ok (.ireturn, 1) := by decide +kernel
set_option maxRecDepth 20000 in
theorem ggX8_command_X8_isWord : GoodIn wsX8_command wsX8_isWord := goodIn_r _ [6, 7, 8, 9, 10, 11, 12, 13, 14, 15, 16, 17, 18, 19, 20, 21, 22, 23, 24, 25, 26, 27, 28, 29, 30, 31, 32, 33, 34, 35, 36, 37, 38, 39, 40, 41, 42, 43, 44, 45, 46, 47, 48, 49, 50, 51, 52, 53, 54, 55, 56, 57, 58, 59, 60, 235, 236, 237, 238, 239, 240, 241, 242, 243, 244, 245, 246, 247, 248, 249, 250, 251, 252, 253, 254, 255, 256, 257, 258, 259, 260, 261, 262, 263] (by decide +kernel) (by decide +kernel)
set_option maxRecDepth 20000 in
theorem gX8_command_X8_isWord : GoodIn wsX8_command (wsV RX8 256 RX8 yX8_isWord wsX8_isWord) := goodIn_app (goodIn_of _ (by decide +kernel)) ggX8_command_X8_isWord
set_option maxRecDepth 20000 in
theorem ggX8_command_X8_repeatCommand : GoodIn wsX8_command wsX8_repeatCommand := goodIn_r _ [230, 231, 8, 9, 68, 69, 70, 5, 71, 7, 10, 72, 101, 102, 103, 104, 73, 74, 75, 76, 83, 84, 85, 86, 87, 11, 88, 89, 90, 91, 92, 93, 94, 95, 96, 97, 98, 99, 100, 232, 233, 234, 105, 106, 107, 108, 0, 1, 2, 3, 4, 6, 12, 13, 14, 15, 16, 17, 18, 19, 20, 21, 22, 23, 24, 25, 26, 27, 28, 29, 30, 31, 32, 33, 34, 35, 36, 37, 38, 39, 40, 41, 42, 43, 44, 45, 46, 47, 48, 49, 50, 51, 52, 53, 54, 55, 56, 57, 58, 59, 60, 61, 62, 63, 64, 65, 66, 67, 77, 78, 79, 80, 81, 82, 109, 110, 111, 112, 113, 114, 115, 116, 117, 118, 119, 120, 121, 122, 123, 124, 125, 126, 127, 128, 129, 130, 131, 132, 133, 134, 135, 136, 137, 138, 139, 140, 141, 142, 143, 144, 145, 146, 147, 148, 149, 150, 151, 152, 153, 154, 155, 156, 157, 158, 159, 160, 161, 162, 163, 164, 165, 166, 167, 168, 169, 170, 171, 172, 173, 174, 175, 176, 177, 178, 179, 180, 181, 182, 183, 184, 185, 186, 187, 188, 189, 190, 191, 192, 193, 194, 195, 196, 197, 198, 199, 200, 201, 202, 203, 204, 205, 206, 207, 208, 209, 210, 211, 212, 213, 214, 215, 216, 217, 218, 219, 220, 221, 222, 223, 224, 225, 226, 227, 228, 229, 235, 236, 237, 238, 239, 240, 241, 242, 243, 244, 245, 246, 247, 248, 249, 250, 251, 252, 253, 254, 255, 256, 257, 258, 259, 260, 261, 262, 263] (by decide +kernel) (by decide +kernel)
set_option maxRecDepth 20000 in
theorem gX8_command_X8_repeatCommand : GoodIn wsX8_command (wsV RX8 286 RX8 yX8_repeatCommand wsX8_repeatCommand) := goodIn_app (goodIn_of _ (by decide +kernel)) ggX8_command_X8_repeatCommand
set_option maxRecDepth 20000 in
theorem ggX8_command_X8_isCommand : GoodIn wsX8_command wsX8_isCommand := goodIn_r _ [67, 2, 3, 4, 5, 6, 7, 8, 9, 10, 11, 12, 13, 14, 15, 16, 17, 18, 19, 20, 21, 22, 23, 24, 25, 26, 27, 28, 29, 30, 31, 32, 33, 34, 35, 36, 37, 38, 39, 40, 41, 42, 43, 44, 45, 46, 47, 48, 49, 50, 51, 52, 53, 54, 55, 56, 57, 58, 59, 60, 235, 236, 237, 238, 239, 240, 241, 242, 243, 244, 245, 246, 247, 248, 249, 250, 251, 252, 253, 254, 255, 256, 257, 258, 259, 260, 261, 262, 263] (by decide +kernel) (by decide +kernel)
set_option maxRecDepth 20000 in
theorem gX8_command_X8_isCommand : GoodIn wsX8_command (wsV RX8 289 RX8 yX8_isCommand wsX8_isCommand) := goodIn_app (goodIn_of _ (by decide +kernel)) ggX8_command_X8_isCommand
set_option maxRecDepth 20000 in
theorem ggX8_command_X8_fail : GoodIn wsX8_command wsX8_fail := goodIn_r _ [71, 7, 10, 72, 235, 236, 237, 238, 239, 240, 241, 242, 243, 244, 245, 246, 247, 248, 249, 250, 251, 252, 253, 254, 255, 256, 257, 258, 259, 260, 261, 262, 263] (by decide +kernel) (by decide +kernel)
set_option maxRecDepth 20000 in
theorem gX8_command_X8_fail : GoodIn wsX8_command (wsV RX8 239 RX8 yX8_fail wsX8_fail) := goodIn_app (goodIn_of _ (by decide +kernel)) ggX8_command_X8_fail
set_option maxRecDepth 20000 in
theorem ggX8_command_X8_good : GoodIn wsX8_command wsX8_good := goodIn_r _ [76, 7, 235, 236, 237, 238, 239, 240, 241, 242, 243, 244, 245, 246, 247, 248, 249, 250, 251, 252, 253, 254, 255, 256, 257, 258, 259, 260, 261, 262, 263] (by decide +kernel) (by decide +kernel)
set_option maxRecDepth 20000 in
theorem gX8_command_X8_good : GoodIn wsX8_command (wsV RX8 232 RX8 yX8_good wsX8_good) := goodIn_app (goodIn_of _ (by decide +kernel)) ggX8_command_X8_good
set_option maxRecDepth 20000 in
theorem ggX8_command_X8_oneCommand : GoodIn wsX8_command wsX8_oneCommand := goodIn_r _ [80, 81, 82, 2, 3, 4, 5, 6, 7, 8, 9, 10, 11, 12, 13, 14, 15, 16, 17, 18, 19, 20, 21, 22, 23, 24, 25, 26, 27, 28, 29, 30, 31, 32, 33, 34, 35, 36, 37, 38, 39, 40, 41, 42, 43, 44, 45, 46, 47, 48, 49, 50, 51, 52, 53, 54, 55, 56, 57, 58, 59, 60, 83, 84, 85, 86, 87, 88, 89, 90, 91, 92, 93, 94, 95, 96, 97, 98, 99, 100, 68, 69, 70, 71, 72, 101, 102, 103, 104, 73, 74, 75, 76, 105, 106, 107, 108, 109, 110, 111, 112, 113, 114, 115, 116, 117, 118, 119, 120, 121, 122, 123, 124, 125, 126, 127, 128, 129, 130, 131, 132, 133, 134, 135, 136, 137, 138, 139, 140, 141, 142, 143, 144, 145, 146, 147, 148, 149, 150, 151, 152, 153, 154, 155, 156, 157, 158, 159, 160, 161, 162, 163, 164, 165, 166, 167, 168, 169, 170, 171, 172, 173, 174, 175, 176, 177, 178, 179, 180, 181, 182, 183, 184, 185, 186, 187, 188, 189, 190, 191, 192, 193, 194, 195, 196, 197, 198, 199, 200, 201, 202, 203, 204, 205, 206, 207, 208, 209, 210, 211, 212, 213, 214, 215, 216, 217, 218, 219, 220, 221, 222, 223, 224, 225, 226, 227, 228, 229, 235, 236, 237, 238, 239, 240, 241, 242, 243, 244, 245, 246, 247, 248, 249, 250, 251, 252, 253, 254, 255, 256, 257, 258, 259, 260, 261, 262, 263] (by decide +kernel) (by decide +kernel)
set_option maxRecDepth 20000 in
theorem gX8_command_X8_oneCommand : GoodIn wsX8_command (wsV RX8 292 RX8 yX8_oneCommand wsX8_oneCommand) := goodIn_app (goodIn_of _ (by decide +kernel)) ggX8_command_X8_oneCommand
theorem dX8_command_0 : decode cX8_command 0 = .ok (.aload_n 0, 1) := by decide +kernel
theorem dX8_command_1 : decode cX8_command 1 = .ok (.ldc_w 284, 3) := by decide +kernel
theorem dX8_command_4 : decode cX8_command 4 = .ok (.invokevirtual 256, 3) := by decide +kernel
theorem dX8_command_7 : decode cX8_command 7 = .ok (.ifCond .eq 8, 3) := by decide +kernel
theorem dX8_command_10 : decode cX8_command 10 = .ok (.aload_n 0, 1) := by decide +kernel
theorem dX8_command_11 : decode cX8_command 11 = .ok (.invokevirtual 286, 3) := by decide +kernel
theorem dX8_command_14 : decode cX8_command 14 = .ok (.return_, 1) := by decide +kernel
theorem dX8_command_15 : decode cX8_command 15 = .ok (.aload_n 0, 1) := by decide +kernel
theorem dX8_command_16 : decode cX8_command 16 = .ok (.invokevirtual 289, 3) := by decide +kernel
theorem dX8_command_19 : decode cX8_command 19 = .ok (.ifCond .ne 11, 3) := by decide +kernel
theorem dX8_command_22 : decode cX8_command 22 = .ok (.aload_n 0, 1) := by decide +kernel
theorem dX8_command_23 : decode cX8_command 23 = .ok (.iconst 1, 1) := by decide +kernel
theorem dX8_command_24 : decode cX8_command 24 = .ok (.invokevirtual 239, 3) := by decide +kernel
theorem dX8_command_27 : decode cX8_command 27 = .ok (.goto 18, 3) := by decide +kernel
theorem dX8_command_30 : decode cX8_command 30 = .ok (.aload_n 0, 1) := by decide +kernel
theorem dX8_command_31 : decode cX8_command 31 = .ok (.getfield 251, 3) := by decide +kernel
theorem dX8_command_34 : decode cX8_command 34 = .ok (.sipush 300, 3) := by decide +kernel
theorem dX8_command_37 : decode cX8_command 37 = .ok (.if_icmp .ne 8, 3) := by decide +kernel
theorem dX8_command_40 : decode cX8_command 40 = .ok (.aload_n 0, 1) := by decide +kernel
theorem dX8_command_41 : decode cX8_command 41 = .ok (.iconst 5, 1) := by decide +kernel
theorem dX8_command_42 : decode cX8_command 42 = .ok (.invokevirtual 239, 3) := by decide +kernel
theorem dX8_command_45 : decode cX8_command 45 = .ok (.aload_n 0, 1) := by decide +kernel
theorem dX8_command_46 : decode cX8_command 46 = .ok (.dup, 1) := by decide +kernel
theorem dX8_command_47 : decode cX8_command 47 = .ok (.getfield 251, 3) := by decide +kernel
theorem dX8_command_50 : decode cX8_command 50 = .ok (.iconst 1, 1) := by decide +kernel
theorem dX8_command_51 : decode cX8_command 51 = .ok (.iadd, 1) := by decide +kernel
theorem dX8_command_52 : decode cX8_command 52 = .ok (.putfield 251, 3) := by decide +kernel
theorem dX8_command_55 : decode cX8_command 55 = .ok (.aload_n 0, 1) := by decide +kernel
theorem dX8_command_56 : decode cX8_command 56 = .ok (.invokevirtual 232, 3) := by decide +kernel
theorem dX8_command_59 : decode cX8_command 59 = .ok (.ifCond .eq 7, 3) := by decide +kernel
theorem dX8_command_62 : decode cX8_command 62 = .ok (.aload_n 0, 1) := by decide +kernel
theorem dX8_command_63 : decode cX8_command 63 = .ok (.invokevirtual 292, 3) := by decide +kernel
theorem dX8_command_66 : decode cX8_command 66 = .ok (.return_, 1) := by decide +kernel
set_option maxRecDepth 20000 in
theorem ggX8_repeatCommand_X8_fail : GoodIn wsX8_repeatCommand wsX8_fail := goodIn_r _ [8, 9, 10, 11, 235, 236, 237, 238, 239, 240, 241, 242, 243, 244, 245, 246, 247, 248, 249, 250, 251, 252, 253, 254, 255, 256, 257, 258, 259, 260, 261, 262, 263] (by decide +kernel) (by decide +kernel)
set_option maxRecDepth 20000 in
theorem gX8_repeatCommand_X8_fail : GoodIn wsX8_repeatCommand (wsV RX8 239 RX8 yX8_fail wsX8_fail) := goodIn_app (goodIn_of _ (by decide +kernel)) ggX8_repeatCommand_X8_fail
set_option maxRecDepth 20000 in
theorem ggX8_repeatCommand_X8_advance : GoodIn wsX8_repeatCommand wsX8_advance := goodIn_r _ [15, 16, 17, 18, 7, 19, 9, 20, 21, 22, 23, 3, 24, 25, 10, 2, 26, 27, 28, 29, 30, 31, 32, 33, 34, 235, 236, 237, 238, 239, 240, 241, 242, 243, 244, 245, 246, 247, 248, 249, 250, 251, 252, 253, 254, 255, 256, 257, 258, 259, 260, 261, 262, 263] (by decide +kernel) (by decide +kernel)
set_option maxRecDepth 20000 in
theorem gX8_repeatCommand_X8_advance : GoodIn wsX8_repeatCommand (wsV RX8 242 RX8 yX8_advance wsX8_advance) := goodIn_app (goodIn_of _ (by decide +kernel)) ggX8_repeatCommand_X8_advance
set_option maxRecDepth 20000 in
theorem ggX8_repeatCommand_X8_number : GoodIn wsX8_repeatCommand wsX8_number := goodIn_r _ [38, 2, 26, 4, 5, 6, 7, 8, 9, 10, 11, 12, 13, 14, 15, 16, 17, 18, 19, 20, 21, 22, 23, 3, 24, 25, 27, 28, 29, 30, 31, 32, 33, 34, 235, 236, 237, 238, 239, 240, 241, 242, 243, 244, 245, 246, 247, 248, 249, 250, 251, 252, 253, 254, 255, 256, 257, 258, 259, 260, 261, 262, 263] (by decide +kernel) (by decide +kernel)
set_option maxRecDepth 20000 in
theorem gX8_repeatCommand_X8_number : GoodIn wsX8_repeatCommand (wsV RX8 245 RX8 yX8_number wsX8_number) := goodIn_app (goodIn_of _ (by decide +kernel)) ggX8_repeatCommand_X8_number
set_option maxRecDepth 20000 in
theorem ggX8_repeatCommand_X8_good : GoodIn wsX8_repeatCommand wsX8_good := goodIn_r _ [19, 9, 235, 236, 237, 238, 239, 240, 241, 242, 243, 244, 245, 246, 247, 248, 249, 250, 251, 252, 253, 254, 255, 256, 257, 258, 259, 260, 261, 262, 263] (by decide +kernel) (by decide +kernel)
set_option maxRecDepth 20000 in
theorem gX8_repeatCommand_X8_good : GoodIn wsX8_repeatCommand (wsV RX8 232 RX8 yX8_good wsX8_good) := goodIn_app (goodIn_of _ (by decide +kernel)) ggX8_repeatCommand_X8_good
set_option maxRecDepth 20000 in
theorem ggX8_repeatCommand_X8_scan : GoodIn wsX8_repeatCommand wsX8_scan := goodIn_r _ [23, 3, 24, 25, 10, 2, 26, 27, 28, 29, 7, 30, 31, 32, 33, 34, 235, 236, 237, 238, 239, 240, 241, 242, 243, 244, 245, 246, 247, 248, 249, 250, 251, 252, 253, 254, 255, 256, 257, 258, 259, 260, 261, 262, 263] (by decide +kernel) (by decide +kernel)
set_option maxRecDepth 20000 in
theorem gX8_repeatCommand_X8_scan : GoodIn wsX8_repeatCommand (wsV RX8 236 RX8 yX8_scan wsX8_scan) := goodIn_app (goodIn_of _ (by decide +kernel)) ggX8_repeatCommand_X8_scan
set_option maxRecDepth 20000 in
theorem ggX8_repeatCommand_X8_command : GoodIn wsX8_repeatCommand wsX8_command := goodIn_r _ [46, 47, 48, 49, 50, 7, 51, 9, 2, 3, 10, 25, 52, 53, 54, 55, 56, 57, 58, 59, 60, 61, 62, 63, 64, 65, 66, 67, 68, 69, 70, 71, 72, 73, 74, 75, 76, 77, 78, 79, 80, 81, 82, 83, 84, 85, 86, 87, 88, 89, 90, 91, 92, 93, 94, 95, 96, 97, 98, 99, 100, 101, 102, 103, 104, 105, 106, 107, 4, 5, 6, 8, 11, 16, 17, 18, 19, 108, 109, 110, 111, 112, 113, 20, 21, 22, 23, 24, 26, 27, 28, 29, 30, 31, 32, 33, 34, 35, 36, 37, 38, 12, 13, 14, 15, 42, 43, 44, 45, 114, 115, 116, 117, 118, 119, 120, 121, 122, 123, 124, 125, 126, 127, 128, 129, 130, 131, 132, 133, 134, 135, 136, 137, 138, 139, 140, 141, 142, 143, 144, 145, 146, 147, 148, 149, 150, 151, 152, 153, 154, 155, 156, 157, 158, 159, 160, 161, 162, 163, 164, 165, 166, 167, 168, 169, 170, 171, 172, 173, 174, 175, 176, 177, 178, 179, 180, 181, 182, 183, 184, 185, 186, 187, 188, 189, 190, 191, 192, 193, 194, 195, 196, 197, 198, 199, 200, 201, 202, 203, 204, 205, 206, 207, 208, 209, 210, 211, 212, 213, 214, 215, 216, 217, 218, 219, 220, 221, 222, 223, 224, 225, 226, 227, 228, 229, 230, 231, 232, 233, 234, 0, 1, 39, 40, 41, 235, 236, 237, 238, 239, 240, 241, 242, 243, 244, 245, 246, 247, 248, 249, 250, 251, 252, 253, 254, 255, 256, 257, 258, 259, 260, 261, 262, 263] (by decide +kernel) (by decide +kernel)
set_option maxRecDepth 20000 in
theorem gX8_repeatCommand_X8_command : GoodIn wsX8_repeatCommand (wsV RX8 267 RX8 yX8_command wsX8_command) := goodIn_app (goodIn_of _ (by decide +kernel)) ggX8_repeatCommand_X8_command
set_option maxRecDepth 20000 in
theorem ggX8_repeatCommand_X8_ends : GoodIn wsX8_repeatCommand wsX8_ends := goodIn_r _ [45, 2, 4, 5, 6, 7, 8, 9, 10, 11, 16, 17, 18, 19, 235, 236, 237, 238, 239, 240, 241, 242, 243, 244, 245, 246, 247, 248, 249, 250, 251, 252, 253, 254, 255, 256, 257, 258, 259, 260, 261, 262, 263] (by decide +kernel) (by decide +kernel)
set_option maxRecDepth 20000 in
theorem gX8_repeatCommand_X8_ends : GoodIn wsX8_repeatCommand (wsV RX8 260 RX8 yX8_ends wsX8_ends) := goodIn_app (goodIn_of _ (by decide +kernel)) ggX8_repeatCommand_X8_ends
theorem dX8_repeatCommand_0 : decode cX8_repeatCommand 0 = .ok (.aload_n 0, 1) := by decide +kernel
theorem dX8_repeatCommand_1 : decode cX8_repeatCommand 1 = .ok (.getfield 248, 3) := by decide +kernel
theorem dX8_repeatCommand_4 : decode cX8_repeatCommand 4 = .ok (.iconst 3, 1) := by decide +kernel
theorem dX8_repeatCommand_5 : decode cX8_repeatCommand 5 = .ok (.if_icmp .ne 8, 3) := by decide +kernel
theorem dX8_repeatCommand_8 : decode cX8_repeatCommand 8 = .ok (.aload_n 0, 1) := by decide +kernel
theorem dX8_repeatCommand_9 : decode cX8_repeatCommand 9 = .ok (.iconst 4, 1) := by decide +kernel
theorem dX8_repeatCommand_10 : decode cX8_repeatCommand 10 = .ok (.invokevirtual 239, 3) := by decide +kernel
theorem dX8_repeatCommand_13 : decode cX8_repeatCommand 13 = .ok (.aload_n 0, 1) := by decide +kernel
theorem dX8_repeatCommand_14 : decode cX8_repeatCommand 14 = .ok (.invokevirtual 242, 3) := by decide +kernel
theorem dX8_repeatCommand_17 : decode cX8_repeatCommand 17 = .ok (.aload_n 0, 1) := by decide +kernel
theorem dX8_repeatCommand_18 : decode cX8_repeatCommand 18 = .ok (.iconst 1, 1) := by decide +kernel
theorem dX8_repeatCommand_19 : decode cX8_repeatCommand 19 = .ok (.bipush 24, 2) := by decide +kernel
theorem dX8_repeatCommand_21 : decode cX8_repeatCommand 21 = .ok (.invokevirtual 245, 3) := by decide +kernel
theorem dX8_repeatCommand_24 : decode cX8_repeatCommand 24 = .ok (.istore_n 1, 1) := by decide +kernel
theorem dX8_repeatCommand_25 : decode cX8_repeatCommand 25 = .ok (.aload_n 0, 1) := by decide +kernel
theorem dX8_repeatCommand_26 : decode cX8_repeatCommand 26 = .ok (.getfield 205, 3) := by decide +kernel
theorem dX8_repeatCommand_29 : decode cX8_repeatCommand 29 = .ok (.iconst 5, 1) := by decide +kernel
theorem dX8_repeatCommand_30 : decode cX8_repeatCommand 30 = .ok (.if_icmp .eq 8, 3) := by decide +kernel
theorem dX8_repeatCommand_33 : decode cX8_repeatCommand 33 = .ok (.aload_n 0, 1) := by decide +kernel
theorem dX8_repeatCommand_34 : decode cX8_repeatCommand 34 = .ok (.iconst 1, 1) := by decide +kernel
theorem dX8_repeatCommand_35 : decode cX8_repeatCommand 35 = .ok (.invokevirtual 239, 3) := by decide +kernel
theorem dX8_repeatCommand_38 : decode cX8_repeatCommand 38 = .ok (.aload_n 0, 1) := by decide +kernel
theorem dX8_repeatCommand_39 : decode cX8_repeatCommand 39 = .ok (.getfield 199, 3) := by decide +kernel
theorem dX8_repeatCommand_42 : decode cX8_repeatCommand 42 = .ok (.istore_n 2, 1) := by decide +kernel
theorem dX8_repeatCommand_43 : decode cX8_repeatCommand 43 = .ok (.aload_n 0, 1) := by decide +kernel
theorem dX8_repeatCommand_44 : decode cX8_repeatCommand 44 = .ok (.dup, 1) := by decide +kernel
theorem dX8_repeatCommand_45 : decode cX8_repeatCommand 45 = .ok (.getfield 248, 3) := by decide +kernel
theorem dX8_repeatCommand_48 : decode cX8_repeatCommand 48 = .ok (.iconst 1, 1) := by decide +kernel
theorem dX8_repeatCommand_49 : decode cX8_repeatCommand 49 = .ok (.iadd, 1) := by decide +kernel
theorem dX8_repeatCommand_50 : decode cX8_repeatCommand 50 = .ok (.putfield 248, 3) := by decide +kernel
theorem dX8_repeatCommand_53 : decode cX8_repeatCommand 53 = .ok (.iconst 0, 1) := by decide +kernel
theorem dX8_repeatCommand_54 : decode cX8_repeatCommand 54 = .ok (.istore_n 3, 1) := by decide +kernel
theorem dX8_repeatCommand_55 : decode cX8_repeatCommand 55 = .ok (.iload_n 3, 1) := by decide +kernel
theorem dX8_repeatCommand_56 : decode cX8_repeatCommand 56 = .ok (.iload_n 1, 1) := by decide +kernel
theorem dX8_repeatCommand_57 : decode cX8_repeatCommand 57 = .ok (.if_icmp .ge 52, 3) := by decide +kernel
theorem dX8_repeatCommand_60 : decode cX8_repeatCommand 60 = .ok (.aload_n 0, 1) := by decide +kernel
theorem dX8_repeatCommand_61 : decode cX8_repeatCommand 61 = .ok (.invokevirtual 232, 3) := by decide +kernel
theorem dX8_repeatCommand_64 : decode cX8_repeatCommand 64 = .ok (.ifCond .eq 45, 3) := by decide +kernel
theorem dX8_repeatCommand_67 : decode cX8_repeatCommand 67 = .ok (.aload_n 0, 1) := by decide +kernel
theorem dX8_repeatCommand_68 : decode cX8_repeatCommand 68 = .ok (.iload_n 2, 1) := by decide +kernel
theorem dX8_repeatCommand_69 : decode cX8_repeatCommand 69 = .ok (.putfield 199, 3) := by decide +kernel
theorem dX8_repeatCommand_72 : decode cX8_repeatCommand 72 = .ok (.aload_n 0, 1) := by decide +kernel
theorem dX8_repeatCommand_73 : decode cX8_repeatCommand 73 = .ok (.invokevirtual 236, 3) := by decide +kernel
theorem dX8_repeatCommand_76 : decode cX8_repeatCommand 76 = .ok (.aload_n 0, 1) := by decide +kernel
theorem dX8_repeatCommand_77 : decode cX8_repeatCommand 77 = .ok (.invokevirtual 232, 3) := by decide +kernel
theorem dX8_repeatCommand_80 : decode cX8_repeatCommand 80 = .ok (.ifCond .eq 23, 3) := by decide +kernel
theorem dX8_repeatCommand_83 : decode cX8_repeatCommand 83 = .ok (.aload_n 0, 1) := by decide +kernel
theorem dX8_repeatCommand_84 : decode cX8_repeatCommand 84 = .ok (.getfield 205, 3) := by decide +kernel
theorem dX8_repeatCommand_87 : decode cX8_repeatCommand 87 = .ok (.bipush 6, 2) := by decide +kernel
theorem dX8_repeatCommand_89 : decode cX8_repeatCommand 89 = .ok (.if_icmp .eq 14, 3) := by decide +kernel
theorem dX8_repeatCommand_92 : decode cX8_repeatCommand 92 = .ok (.aload_n 0, 1) := by decide +kernel
theorem dX8_repeatCommand_93 : decode cX8_repeatCommand 93 = .ok (.invokevirtual 267, 3) := by decide +kernel
theorem dX8_repeatCommand_96 : decode cX8_repeatCommand 96 = .ok (.aload_n 0, 1) := by decide +kernel
theorem dX8_repeatCommand_97 : decode cX8_repeatCommand 97 = .ok (.invokevirtual 242, 3) := by decide +kernel
theorem dX8_repeatCommand_100 : decode cX8_repeatCommand 100 = .ok (.goto (-24), 3) := by decide +kernel
theorem dX8_repeatCommand_103 : decode cX8_repeatCommand 103 = .ok (.iinc 3 1, 3) := by decide +kernel
theorem dX8_repeatCommand_106 : decode cX8_repeatCommand 106 = .ok (.goto (-51), 3) := by decide +kernel
theorem dX8_repeatCommand_109 : decode cX8_repeatCommand 109 = .ok (.aload_n 0, 1) := by decide +kernel
theorem dX8_repeatCommand_110 : decode cX8_repeatCommand 110 = .ok (.dup, 1) := by decide +kernel
theorem dX8_repeatCommand_111 : decode cX8_repeatCommand 111 = .ok (.getfield 248, 3) := by decide +kernel
theorem dX8_repeatCommand_114 : decode cX8_repeatCommand 114 = .ok (.iconst 1, 1) := by decide +kernel
theorem dX8_repeatCommand_115 : decode cX8_repeatCommand 115 = .ok (.isub, 1) := by decide +kernel
theorem dX8_repeatCommand_116 : decode cX8_repeatCommand 116 = .ok (.putfield 248, 3) := by decide +kernel
theorem dX8_repeatCommand_119 : decode cX8_repeatCommand 119 = .ok (.aload_n 0, 1) := by decide +kernel
theorem dX8_repeatCommand_120 : decode cX8_repeatCommand 120 = .ok (.invokevirtual 242, 3) := by decide +kernel
theorem dX8_repeatCommand_123 : decode cX8_repeatCommand 123 = .ok (.aload_n 0, 1) := by decide +kernel
theorem dX8_repeatCommand_124 : decode cX8_repeatCommand 124 = .ok (.iconst 1, 1) := by decide +kernel
theorem dX8_repeatCommand_125 : decode cX8_repeatCommand 125 = .ok (.invokevirtual 260, 3) := by decide +kernel
theorem dX8_repeatCommand_128 : decode cX8_repeatCommand 128 = .ok (.istore_n 3, 1) := by decide +kernel
theorem dX8_repeatCommand_129 : decode cX8_repeatCommand 129 = .ok (.return_, 1) := by decide +kernel
set_option maxRecDepth 20000 in
theorem ggX8_oneCommand_X8_isWord : GoodIn wsX8_oneCommand wsX8_isWord := goodIn_r _ [7, 8, 9, 10, 11, 12, 13, 14, 15, 16, 17, 18, 19, 20, 21, 22, 23, 24, 25, 26, 27, 28, 29, 30, 31, 32, 33, 34, 35, 36, 37, 38, 39, 40, 41, 42, 43, 44, 45, 46, 47, 48, 49, 50, 51, 52, 53, 54, 55, 56, 57, 58, 59, 60, 61, 218, 219, 220, 221, 222, 223, 224, 225, 226, 227, 228, 229, 230, 231, 232, 233, 234, 235, 236, 237, 238, 239, 240, 241, 242, 243, 244, 245, 246] (by decide +kernel) (by decide +kernel)
set_option maxRecDepth 20000 in
theorem gX8_oneCommand_X8_isWord : GoodIn wsX8_oneCommand (wsV RX8 256 RX8 yX8_isWord wsX8_isWord) := goodIn_app (goodIn_of _ (by decide +kernel)) ggX8_oneCommand_X8_isWord
set_option maxRecDepth 20000 in
theorem ggX8_oneCommand_X8_scan : GoodIn wsX8_oneCommand wsX8_scan := goodIn_r _ [65, 10, 66, 12, 11, 9, 67, 68, 69, 70, 6, 71, 72, 73, 74, 75, 218, 219, 220, 221, 222, 223, 224, 225, 226, 227, 228, 229, 230, 231, 232, 233, 234, 235, 236, 237, 238, 239, 240, 241, 242, 243, 244, 245, 246] (by decide +kernel) (by decide +kernel)
set_option maxRecDepth 20000 in
theorem gX8_oneCommand_X8_scan : GoodIn wsX8_oneCommand (wsV RX8 236 RX8 yX8_scan wsX8_scan) := goodIn_app (goodIn_of _ (by decide +kernel)) ggX8_oneCommand_X8_scan
set_option maxRecDepth 20000 in
theorem ggX8_oneCommand_X8_number : GoodIn wsX8_oneCommand wsX8_number := goodIn_r _ [79, 9, 67, 80, 81, 82, 6, 83, 8, 11, 84, 85, 86, 87, 88, 89, 90, 91, 92, 62, 63, 64, 65, 10, 66, 12, 68, 69, 70, 71, 72, 73, 74, 75, 218, 219, 220, 221, 222, 223, 224, 225, 226, 227, 228, 229, 230, 231, 232, 233, 234, 235, 236, 237, 238, 239, 240, 241, 242, 243, 244, 245, 246] (by decide +kernel) (by decide +kernel)
set_option maxRecDepth 20000 in
theorem gX8_oneCommand_X8_number : GoodIn wsX8_oneCommand (wsV RX8 245 RX8 yX8_number wsX8_number) := goodIn_app (goodIn_of _ (by decide +kernel)) ggX8_oneCommand_X8_number
set_option maxRecDepth 20000 in
theorem ggX8_oneCommand_X8_ends : GoodIn wsX8_oneCommand wsX8_ends := goodIn_r _ [96, 9, 80, 81, 82, 6, 83, 8, 11, 84, 89, 90, 91, 92, 218, 219, 220, 221, 222, 223, 224, 225, 226, 227, 228, 229, 230, 231, 232, 233, 234, 235, 236, 237, 238, 239, 240, 241, 242, 243, 244, 245, 246] (by decide +kernel) (by decide +kernel)
set_option maxRecDepth 20000 in
theorem gX8_oneCommand_X8_ends : GoodIn wsX8_oneCommand (wsV RX8 260 RX8 yX8_ends wsX8_ends) := goodIn_app (goodIn_of _ (by decide +kernel)) ggX8_oneCommand_X8_ends
set_option maxRecDepth 20000 in
theorem ggX8_oneCommand_X8_makeLoan : GoodIn wsX8_oneCommand wsX8_makeLoan := goodIn_r _ [100, 2, 101, 102, 103, 6, 104, 105, 106, 107, 108, 109, 110, 111, 112, 113, 114, 115, 116, 117, 118, 119, 120, 121, 122, 123, 124, 125, 126, 127, 128, 129, 130, 131, 132, 133, 134, 135, 136, 137, 138, 139, 140, 141, 142, 143, 144, 218, 219, 220, 221, 222, 223, 224, 225, 226, 227, 228, 229, 230, 231, 232, 233, 234, 235, 236, 237, 238, 239, 240, 241, 242, 243, 244, 245, 246] (by decide +kernel) (by decide +kernel)
set_option maxRecDepth 20000 in
theorem gX8_oneCommand_X8_makeLoan : GoodIn wsX8_oneCommand (wsV RX8 39 RX8 yX8_makeLoan wsX8_makeLoan) := goodIn_app (goodIn_of _ (by decide +kernel)) ggX8_oneCommand_X8_makeLoan
set_option maxRecDepth 20000 in
theorem ggX8_oneCommand_X8_aLoan : GoodIn wsX8_oneCommand wsX8_aLoan := goodIn_r _ [148, 2, 76, 77, 78, 6, 79, 9, 67, 80, 81, 82, 83, 8, 11, 84, 85, 86, 87, 88, 89, 90, 91, 92, 62, 63, 64, 65, 10, 66, 12, 68, 69, 70, 71, 72, 73, 74, 75, 218, 219, 220, 221, 222, 223, 224, 225, 226, 227, 228, 229, 230, 231, 232, 233, 234, 235, 236, 237, 238, 239, 240, 241, 242, 243, 244, 245, 246] (by decide +kernel) (by decide +kernel)
set_option maxRecDepth 20000 in
theorem gX8_oneCommand_X8_aLoan : GoodIn wsX8_oneCommand (wsV RX8 295 RX8 yX8_aLoan wsX8_aLoan) := goodIn_app (goodIn_of _ (by decide +kernel)) ggX8_oneCommand_X8_aLoan
set_option maxRecDepth 20000 in
theorem ggX8_oneCommand_X8_good : GoodIn wsX8_oneCommand wsX8_good := goodIn_r _ [92, 8, 218, 219, 220, 221, 222, 223, 224, 225, 226, 227, 228, 229, 230, 231, 232, 233, 234, 235, 236, 237, 238, 239, 240, 241, 242, 243, 244, 245, 246] (by decide +kernel) (by decide +kernel)
set_option maxRecDepth 20000 in
theorem gX8_oneCommand_X8_good : GoodIn wsX8_oneCommand (wsV RX8 232 RX8 yX8_good wsX8_good) := goodIn_app (goodIn_of _ (by decide +kernel)) ggX8_oneCommand_X8_good
set_option maxRecDepth 20000 in
theorem ggX8_oneCommand_X8_isRunning : GoodIn wsX8_oneCommand wsX8_isRunning := goodIn_r _ [152, 109, 110, 111, 6, 112, 2, 218, 219, 220, 221, 222, 223, 224, 225, 226, 227, 228, 229, 230, 231, 232, 233, 234, 235, 236, 237, 238, 239, 240, 241, 242, 243, 244, 245, 246] (by decide +kernel) (by decide +kernel)
set_option maxRecDepth 20000 in
theorem gX8_oneCommand_X8_isRunning : GoodIn wsX8_oneCommand (wsV RX8 130 RX8 yX8_isRunning wsX8_isRunning) := goodIn_app (goodIn_of _ (by decide +kernel)) ggX8_oneCommand_X8_isRunning
set_option maxRecDepth 20000 in
theorem ggX8_oneCommand_X8_payOne : GoodIn wsX8_oneCommand wsX8_payOne := goodIn_r _ [156, 117, 127, 128, 131, 157, 158, 159, 6, 160, 119, 120, 121, 122, 109, 110, 111, 112, 2, 123, 124, 125, 126, 129, 130, 132, 133, 134, 135, 136, 101, 102, 103, 104, 161, 162, 163, 164, 165, 166, 167, 168, 169, 170, 171, 172, 149, 150, 151, 152, 218, 219, 220, 221, 222, 223, 224, 225, 226, 227, 228, 229, 230, 231, 232, 233, 234, 235, 236, 237, 238, 239, 240, 241, 242, 243, 244, 245, 246] (by decide +kernel) (by decide +kernel)
set_option maxRecDepth 20000 in
theorem gX8_oneCommand_X8_payOne : GoodIn wsX8_oneCommand (wsV RX8 146 RX8 yX8_payOne wsX8_payOne) := goodIn_app (goodIn_of _ (by decide +kernel)) ggX8_oneCommand_X8_payOne
set_option maxRecDepth 20000 in
theorem ggX8_oneCommand_X8_payEach : GoodIn wsX8_oneCommand wsX8_payEach := goodIn_r _ [176, 2, 149, 150, 151, 6, 152, 109, 110, 111, 112, 153, 154, 155, 156, 117, 127, 128, 131, 157, 158, 159, 160, 119, 120, 121, 122, 123, 124, 125, 126, 129, 130, 132, 133, 134, 135, 136, 101, 102, 103, 104, 161, 162, 163, 164, 165, 166, 167, 168, 169, 170, 171, 172, 218, 219, 220, 221, 222, 223, 224, 225, 226, 227, 228, 229, 230, 231, 232, 233, 234, 235, 236, 237, 238, 239, 240, 241, 242, 243, 244, 245, 246] (by decide +kernel) (by decide +kernel)
set_option maxRecDepth 20000 in
theorem gX8_oneCommand_X8_payEach : GoodIn wsX8_oneCommand (wsV RX8 44 RX8 yX8_payEach wsX8_payEach) := goodIn_app (goodIn_of _ (by decide +kernel)) ggX8_oneCommand_X8_payEach
set_option maxRecDepth 20000 in
theorem ggX8_oneCommand_X8_extraCommand : GoodIn wsX8_oneCommand wsX8_extraCommand := goodIn_r _ [180, 1, 145, 146, 147, 6, 148, 2, 76, 77, 78, 79, 9, 67, 80, 81, 82, 83, 8, 11, 84, 85, 86, 87, 88, 89, 90, 91, 92, 62, 63, 64, 65, 10, 66, 12, 68, 69, 70, 71, 72, 73, 74, 75, 3, 4, 5, 7, 13, 14, 15, 16, 17, 18, 19, 20, 21, 22, 23, 24, 25, 26, 27, 28, 29, 30, 31, 32, 33, 34, 35, 36, 37, 38, 39, 40, 41, 42, 43, 44, 45, 46, 47, 48, 49, 50, 51, 52, 53, 54, 55, 56, 57, 58, 59, 60, 61, 181, 182, 183, 184, 149, 150, 151, 152, 109, 110, 111, 112, 93, 94, 95, 96, 185, 186, 187, 188, 161, 162, 163, 164, 101, 102, 103, 104, 165, 166, 167, 168, 169, 170, 171, 172, 105, 106, 107, 108, 113, 114, 115, 116, 117, 118, 119, 120, 121, 122, 123, 124, 125, 126, 127, 128, 129, 130, 131, 132, 133, 134, 135, 136, 137, 138, 139, 140, 141, 142, 143, 144, 189, 190, 191, 192, 218, 219, 220, 221, 222, 223, 224, 225, 226, 227, 228, 229, 230, 231, 232, 233, 234, 235, 236, 237, 238, 239, 240, 241, 242, 243, 244, 245, 246] (by decide +kernel) (by decide +kernel)
set_option maxRecDepth 20000 in
theorem gX8_oneCommand_X8_extraCommand : GoodIn wsX8_oneCommand (wsV RX8 298 RX8 yX8_extraCommand wsX8_extraCommand) := goodIn_app (goodIn_of _ (by decide +kernel)) ggX8_oneCommand_X8_extraCommand
set_option maxRecDepth 20000 in
theorem ggX8_oneCommand_X8_otherCommand : GoodIn wsX8_oneCommand wsX8_otherCommand := goodIn_r _ [196, 3, 4, 5, 6, 7, 8, 9, 10, 11, 12, 13, 14, 15, 16, 17, 18, 19, 20, 21, 22, 23, 24, 25, 26, 27, 28, 29, 30, 31, 32, 33, 34, 35, 36, 37, 38, 39, 40, 41, 42, 43, 44, 45, 46, 47, 48, 49, 50, 51, 52, 53, 54, 55, 56, 57, 58, 59, 60, 61, 62, 63, 64, 65, 66, 67, 68, 69, 70, 71, 72, 73, 74, 75, 145, 146, 147, 148, 2, 76, 77, 78, 79, 80, 81, 82, 83, 84, 85, 86, 87, 88, 89, 90, 91, 92, 197, 198, 199, 200, 131, 201, 149, 150, 151, 152, 109, 110, 111, 112, 157, 158, 159, 160, 119, 120, 121, 122, 123, 124, 125, 126, 127, 128, 129, 130, 117, 132, 133, 134, 135, 136, 93, 94, 95, 96, 202, 203, 204, 205, 101, 102, 103, 104, 161, 162, 163, 164, 105, 106, 107, 108, 113, 114, 115, 116, 118, 137, 138, 139, 140, 141, 142, 143, 144, 206, 207, 208, 209, 210, 211, 212, 213, 214, 215, 216, 217, 218, 219, 220, 221, 222, 223, 224, 225, 226, 227, 228, 229, 230, 231, 232, 233, 234, 235, 236, 237, 238, 239, 240, 241, 242, 243, 244, 245, 246] (by decide +kernel) (by decide +kernel)
set_option maxRecDepth 20000 in
theorem gX8_oneCommand_X8_otherCommand : GoodIn wsX8_oneCommand (wsV RX8 301 RX8 yX8_otherCommand wsX8_otherCommand) := goodIn_app (goodIn_of _ (by decide +kernel)) ggX8_oneCommand_X8_otherCommand
theorem dX8_oneCommand_0 : decode cX8_oneCommand 0 = .ok (.aload_n 0, 1) := by decide +kernel
theorem dX8_oneCommand_1 : decode cX8_oneCommand 1 = .ok (.ldc_w 273, 3) := by decide +kernel
theorem dX8_oneCommand_4 : decode cX8_oneCommand 4 = .ok (.invokevirtual 256, 3) := by decide +kernel
theorem dX8_oneCommand_7 : decode cX8_oneCommand 7 = .ok (.ifCond .eq 67, 3) := by decide +kernel
theorem dX8_oneCommand_10 : decode cX8_oneCommand 10 = .ok (.aload_n 0, 1) := by decide +kernel
theorem dX8_oneCommand_11 : decode cX8_oneCommand 11 = .ok (.invokevirtual 236, 3) := by decide +kernel
theorem dX8_oneCommand_14 : decode cX8_oneCommand 14 = .ok (.aload_n 0, 1) := by decide +kernel
theorem dX8_oneCommand_15 : decode cX8_oneCommand 15 = .ok (.iconst 1, 1) := by decide +kernel
theorem dX8_oneCommand_16 : decode cX8_oneCommand 16 = .ok (.ldc 154, 2) := by decide +kernel
theorem dX8_oneCommand_18 : decode cX8_oneCommand 18 = .ok (.invokevirtual 245, 3) := by decide +kernel
theorem dX8_oneCommand_21 : decode cX8_oneCommand 21 = .ok (.istore_n 1, 1) := by decide +kernel
theorem dX8_oneCommand_22 : decode cX8_oneCommand 22 = .ok (.aload_n 0, 1) := by decide +kernel
theorem dX8_oneCommand_23 : decode cX8_oneCommand 23 = .ok (.iconst 0, 1) := by decide +kernel
theorem dX8_oneCommand_24 : decode cX8_oneCommand 24 = .ok (.sipush 3000, 3) := by decide +kernel
theorem dX8_oneCommand_27 : decode cX8_oneCommand 27 = .ok (.invokevirtual 245, 3) := by decide +kernel
theorem dX8_oneCommand_30 : decode cX8_oneCommand 30 = .ok (.istore_n 2, 1) := by decide +kernel
theorem dX8_oneCommand_31 : decode cX8_oneCommand 31 = .ok (.aload_n 0, 1) := by decide +kernel
theorem dX8_oneCommand_32 : decode cX8_oneCommand 32 = .ok (.iconst 1, 1) := by decide +kernel
theorem dX8_oneCommand_33 : decode cX8_oneCommand 33 = .ok (.bipush 120, 2) := by decide +kernel
theorem dX8_oneCommand_35 : decode cX8_oneCommand 35 = .ok (.invokevirtual 245, 3) := by decide +kernel
theorem dX8_oneCommand_38 : decode cX8_oneCommand 38 = .ok (.istore_n 3, 1) := by decide +kernel
theorem dX8_oneCommand_39 : decode cX8_oneCommand 39 = .ok (.aload_n 0, 1) := by decide +kernel
theorem dX8_oneCommand_40 : decode cX8_oneCommand 40 = .ok (.aload_n 0, 1) := by decide +kernel
theorem dX8_oneCommand_41 : decode cX8_oneCommand 41 = .ok (.getfield 9, 3) := by decide +kernel
theorem dX8_oneCommand_44 : decode cX8_oneCommand 44 = .ok (.iconst 0, 1) := by decide +kernel
theorem dX8_oneCommand_45 : decode cX8_oneCommand 45 = .ok (.iaload, 1) := by decide +kernel
theorem dX8_oneCommand_46 : decode cX8_oneCommand 46 = .ok (.bipush 6, 2) := by decide +kernel
theorem dX8_oneCommand_48 : decode cX8_oneCommand 48 = .ok (.if_icmp .ge 7, 3) := by decide +kernel
theorem dX8_oneCommand_51 : decode cX8_oneCommand 51 = .ok (.iconst 1, 1) := by decide +kernel
theorem dX8_oneCommand_52 : decode cX8_oneCommand 52 = .ok (.goto 4, 3) := by decide +kernel
theorem dX8_oneCommand_55 : decode cX8_oneCommand 55 = .ok (.iconst 0, 1) := by decide +kernel
theorem dX8_oneCommand_56 : decode cX8_oneCommand 56 = .ok (.invokevirtual 260, 3) := by decide +kernel
theorem dX8_oneCommand_59 : decode cX8_oneCommand 59 = .ok (.ifCond .eq 12, 3) := by decide +kernel
theorem dX8_oneCommand_62 : decode cX8_oneCommand 62 = .ok (.aload_n 0, 1) := by decide +kernel
theorem dX8_oneCommand_63 : decode cX8_oneCommand 63 = .ok (.iload_n 1, 1) := by decide +kernel
theorem dX8_oneCommand_64 : decode cX8_oneCommand 64 = .ok (.iload_n 2, 1) := by decide +kernel
theorem dX8_oneCommand_65 : decode cX8_oneCommand 65 = .ok (.iload_n 3, 1) := by decide +kernel
theorem dX8_oneCommand_66 : decode cX8_oneCommand 66 = .ok (.invokevirtual 39, 3) := by decide +kernel
theorem dX8_oneCommand_69 : decode cX8_oneCommand 69 = .ok (.istore 4, 2) := by decide +kernel
theorem dX8_oneCommand_71 : decode cX8_oneCommand 71 = .ok (.goto 113, 3) := by decide +kernel
theorem dX8_oneCommand_74 : decode cX8_oneCommand 74 = .ok (.aload_n 0, 1) := by decide +kernel
theorem dX8_oneCommand_75 : decode cX8_oneCommand 75 = .ok (.ldc_w 275, 3) := by decide +kernel
theorem dX8_oneCommand_78 : decode cX8_oneCommand 78 = .ok (.invokevirtual 256, 3) := by decide +kernel
theorem dX8_oneCommand_81 : decode cX8_oneCommand 81 = .ok (.ifCond .eq 48, 3) := by decide +kernel
theorem dX8_oneCommand_84 : decode cX8_oneCommand 84 = .ok (.aload_n 0, 1) := by decide +kernel
theorem dX8_oneCommand_85 : decode cX8_oneCommand 85 = .ok (.invokevirtual 236, 3) := by decide +kernel
theorem dX8_oneCommand_88 : decode cX8_oneCommand 88 = .ok (.aload_n 0, 1) := by decide +kernel
theorem dX8_oneCommand_89 : decode cX8_oneCommand 89 = .ok (.invokevirtual 295, 3) := by decide +kernel
theorem dX8_oneCommand_92 : decode cX8_oneCommand 92 = .ok (.istore_n 1, 1) := by decide +kernel
theorem dX8_oneCommand_93 : decode cX8_oneCommand 93 = .ok (.aload_n 0, 1) := by decide +kernel
theorem dX8_oneCommand_94 : decode cX8_oneCommand 94 = .ok (.aload_n 0, 1) := by decide +kernel
theorem dX8_oneCommand_95 : decode cX8_oneCommand 95 = .ok (.invokevirtual 232, 3) := by decide +kernel
theorem dX8_oneCommand_98 : decode cX8_oneCommand 98 = .ok (.ifCond .eq 15, 3) := by decide +kernel
theorem dX8_oneCommand_101 : decode cX8_oneCommand 101 = .ok (.aload_n 0, 1) := by decide +kernel
theorem dX8_oneCommand_102 : decode cX8_oneCommand 102 = .ok (.iload_n 1, 1) := by decide +kernel
theorem dX8_oneCommand_103 : decode cX8_oneCommand 103 = .ok (.invokevirtual 130, 3) := by decide +kernel
theorem dX8_oneCommand_106 : decode cX8_oneCommand 106 = .ok (.ifCond .eq 7, 3) := by decide +kernel
theorem dX8_oneCommand_109 : decode cX8_oneCommand 109 = .ok (.iconst 1, 1) := by decide +kernel
theorem dX8_oneCommand_110 : decode cX8_oneCommand 110 = .ok (.goto 4, 3) := by decide +kernel
theorem dX8_oneCommand_113 : decode cX8_oneCommand 113 = .ok (.iconst 0, 1) := by decide +kernel
theorem dX8_oneCommand_114 : decode cX8_oneCommand 114 = .ok (.invokevirtual 260, 3) := by decide +kernel
theorem dX8_oneCommand_117 : decode cX8_oneCommand 117 = .ok (.ifCond .eq 9, 3) := by decide +kernel
theorem dX8_oneCommand_120 : decode cX8_oneCommand 120 = .ok (.aload_n 0, 1) := by decide +kernel
theorem dX8_oneCommand_121 : decode cX8_oneCommand 121 = .ok (.iload_n 1, 1) := by decide +kernel
theorem dX8_oneCommand_122 : decode cX8_oneCommand 122 = .ok (.invokevirtual 146, 3) := by decide +kernel
theorem dX8_oneCommand_125 : decode cX8_oneCommand 125 = .ok (.istore_n 2, 1) := by decide +kernel
theorem dX8_oneCommand_126 : decode cX8_oneCommand 126 = .ok (.goto 58, 3) := by decide +kernel
theorem dX8_oneCommand_129 : decode cX8_oneCommand 129 = .ok (.aload_n 0, 1) := by decide +kernel
theorem dX8_oneCommand_130 : decode cX8_oneCommand 130 = .ok (.ldc_w 277, 3) := by decide +kernel
theorem dX8_oneCommand_133 : decode cX8_oneCommand 133 = .ok (.invokevirtual 256, 3) := by decide +kernel
theorem dX8_oneCommand_136 : decode cX8_oneCommand 136 = .ok (.ifCond .eq 23, 3) := by decide +kernel
theorem dX8_oneCommand_139 : decode cX8_oneCommand 139 = .ok (.aload_n 0, 1) := by decide +kernel
theorem dX8_oneCommand_140 : decode cX8_oneCommand 140 = .ok (.invokevirtual 236, 3) := by decide +kernel
theorem dX8_oneCommand_143 : decode cX8_oneCommand 143 = .ok (.aload_n 0, 1) := by decide +kernel
theorem dX8_oneCommand_144 : decode cX8_oneCommand 144 = .ok (.iconst 1, 1) := by decide +kernel
theorem dX8_oneCommand_145 : decode cX8_oneCommand 145 = .ok (.invokevirtual 260, 3) := by decide +kernel
theorem dX8_oneCommand_148 : decode cX8_oneCommand 148 = .ok (.ifCond .eq 36, 3) := by decide +kernel
theorem dX8_oneCommand_151 : decode cX8_oneCommand 151 = .ok (.aload_n 0, 1) := by decide +kernel
theorem dX8_oneCommand_152 : decode cX8_oneCommand 152 = .ok (.invokevirtual 44, 3) := by decide +kernel
theorem dX8_oneCommand_155 : decode cX8_oneCommand 155 = .ok (.istore_n 1, 1) := by decide +kernel
theorem dX8_oneCommand_156 : decode cX8_oneCommand 156 = .ok (.goto 28, 3) := by decide +kernel
theorem dX8_oneCommand_159 : decode cX8_oneCommand 159 = .ok (.aload_n 0, 1) := by decide +kernel
theorem dX8_oneCommand_160 : decode cX8_oneCommand 160 = .ok (.ldc_w 279, 3) := by decide +kernel
theorem dX8_oneCommand_163 : decode cX8_oneCommand 163 = .ok (.invokevirtual 256, 3) := by decide +kernel
theorem dX8_oneCommand_166 : decode cX8_oneCommand 166 = .ok (.ifCond .eq 14, 3) := by decide +kernel
theorem dX8_oneCommand_169 : decode cX8_oneCommand 169 = .ok (.aload_n 0, 1) := by decide +kernel
theorem dX8_oneCommand_170 : decode cX8_oneCommand 170 = .ok (.invokevirtual 236, 3) := by decide +kernel
theorem dX8_oneCommand_173 : decode cX8_oneCommand 173 = .ok (.aload_n 0, 1) := by decide +kernel
theorem dX8_oneCommand_174 : decode cX8_oneCommand 174 = .ok (.invokevirtual 298, 3) := by decide +kernel
theorem dX8_oneCommand_177 : decode cX8_oneCommand 177 = .ok (.goto 7, 3) := by decide +kernel
theorem dX8_oneCommand_180 : decode cX8_oneCommand 180 = .ok (.aload_n 0, 1) := by decide +kernel
theorem dX8_oneCommand_181 : decode cX8_oneCommand 181 = .ok (.invokevirtual 301, 3) := by decide +kernel
theorem dX8_oneCommand_184 : decode cX8_oneCommand 184 = .ok (.return_, 1) := by decide +kernel
set_option maxRecDepth 20000 in
theorem ggX8_extraCommand_X8_aLoan : GoodIn wsX8_extraCommand wsX8_aLoan := goodIn_r _ [6, 7, 8, 9, 10, 5, 11, 12, 13, 14, 15, 16, 17, 18, 19, 20, 21, 22, 23, 24, 25, 26, 27, 28, 29, 30, 31, 32, 33, 34, 35, 36, 37, 38, 39, 40, 41, 42, 43, 173, 174, 175, 176, 177, 178, 179, 180, 181, 182, 183, 184, 185, 186, 187, 188, 189, 190, 191, 192, 193, 194, 195, 196, 197, 198, 199, 200, 201] (by decide +kernel) (by decide +kernel)
set_option maxRecDepth 20000 in
theorem gX8_extraCommand_X8_aLoan : GoodIn wsX8_extraCommand (wsV RX8 295 RX8 yX8_aLoan wsX8_aLoan) := goodIn_app (goodIn_of _ (by decide +kernel)) ggX8_extraCommand_X8_aLoan
set_option maxRecDepth 20000 in
theorem ggX8_extraCommand_X8_number : GoodIn wsX8_extraCommand wsX8_number := goodIn_r _ [11, 12, 13, 14, 15, 16, 5, 17, 18, 19, 20, 21, 22, 23, 24, 25, 26, 27, 28, 29, 30, 31, 32, 33, 34, 35, 36, 37, 38, 39, 40, 41, 42, 43, 173, 174, 175, 176, 177, 178, 179, 180, 181, 182, 183, 184, 185, 186, 187, 188, 189, 190, 191, 192, 193, 194, 195, 196, 197, 198, 199, 200, 201] (by decide +kernel) (by decide +kernel)
set_option maxRecDepth 20000 in
theorem gX8_extraCommand_X8_number : GoodIn wsX8_extraCommand (wsV RX8 245 RX8 yX8_number wsX8_number) := goodIn_app (goodIn_of _ (by decide +kernel)) ggX8_extraCommand_X8_number
set_option maxRecDepth 20000 in
theorem ggX8_extraCommand_X8_isWord : GoodIn wsX8_extraCommand wsX8_isWord := goodIn_r _ [47, 18, 12, 33, 19, 35, 48, 49, 50, 51, 52, 53, 54, 55, 56, 57, 58, 59, 60, 61, 62, 63, 64, 65, 66, 67, 68, 69, 70, 71, 72, 73, 74, 75, 76, 77, 78, 79, 80, 81, 82, 83, 84, 85, 86, 87, 88, 89, 90, 91, 92, 93, 94, 95, 96, 173, 174, 175, 176, 177, 178, 179, 180, 181, 182, 183, 184, 185, 186, 187, 188, 189, 190, 191, 192, 193, 194, 195, 196, 197, 198, 199, 200, 201] (by decide +kernel) (by decide +kernel)
set_option maxRecDepth 20000 in
theorem gX8_extraCommand_X8_isWord : GoodIn wsX8_extraCommand (wsV RX8 256 RX8 yX8_isWord wsX8_isWord) := goodIn_app (goodIn_of _ (by decide +kernel)) ggX8_extraCommand_X8_isWord
set_option maxRecDepth 20000 in
theorem ggX8_extraCommand_X8_scan : GoodIn wsX8_extraCommand wsX8_scan := goodIn_r _ [32, 33, 34, 35, 19, 12, 13, 36, 37, 38, 5, 39, 40, 41, 42, 43, 173, 174, 175, 176, 177, 178, 179, 180, 181, 182, 183, 184, 185, 186, 187, 188, 189, 190, 191, 192, 193, 194, 195, 196, 197, 198, 199, 200, 201] (by decide +kernel) (by decide +kernel)
set_option maxRecDepth 20000 in
theorem gX8_extraCommand_X8_scan : GoodIn wsX8_extraCommand (wsV RX8 236 RX8 yX8_scan wsX8_scan) := goodIn_app (goodIn_of _ (by decide +kernel)) ggX8_extraCommand_X8_scan
set_option maxRecDepth 20000 in
theorem ggX8_extraCommand_X8_good : GoodIn wsX8_extraCommand wsX8_good := goodIn_r _ [28, 18, 173, 174, 175, 176, 177, 178, 179, 180, 181, 182, 183, 184, 185, 186, 187, 188, 189, 190, 191, 192, 193, 194, 195, 196, 197, 198, 199, 200, 201] (by decide +kernel) (by decide +kernel)
set_option maxRecDepth 20000 in
theorem gX8_extraCommand_X8_good : GoodIn wsX8_extraCommand (wsV RX8 232 RX8 yX8_good wsX8_good) := goodIn_app (goodIn_of _ (by decide +kernel)) ggX8_extraCommand_X8_good
set_option maxRecDepth 20000 in
theorem ggX8_extraCommand_X8_cannotPayExtra : GoodIn wsX8_extraCommand wsX8_cannotPayExtra := goodIn_r _ [100, 101, 102, 103, 5, 104, 105, 106, 107, 108, 7, 173, 174, 175, 176, 177, 178, 179, 180, 181, 182, 183, 184, 185, 186, 187, 188, 189, 190, 191, 192, 193, 194, 195, 196, 197, 198, 199, 200, 201] (by decide +kernel) (by decide +kernel)
set_option maxRecDepth 20000 in
theorem gX8_extraCommand_X8_cannotPayExtra : GoodIn wsX8_extraCommand (wsV RX8 166 RX8 yX8_cannotPayExtra wsX8_cannotPayExtra) := goodIn_app (goodIn_of _ (by decide +kernel)) ggX8_extraCommand_X8_cannotPayExtra
set_option maxRecDepth 20000 in
theorem ggX8_extraCommand_X8_ends : GoodIn wsX8_extraCommand wsX8_ends := goodIn_r _ [112, 12, 14, 15, 16, 5, 17, 18, 19, 20, 25, 26, 27, 28, 173, 174, 175, 176, 177, 178, 179, 180, 181, 182, 183, 184, 185, 186, 187, 188, 189, 190, 191, 192, 193, 194, 195, 196, 197, 198, 199, 200, 201] (by decide +kernel) (by decide +kernel)
set_option maxRecDepth 20000 in
theorem gX8_extraCommand_X8_ends : GoodIn wsX8_extraCommand (wsV RX8 260 RX8 yX8_ends wsX8_ends) := goodIn_app (goodIn_of _ (by decide +kernel)) ggX8_extraCommand_X8_ends
set_option maxRecDepth 20000 in
theorem ggX8_extraCommand_X8_extra : GoodIn wsX8_extraCommand wsX8_extra := goodIn_r _ [116, 117, 118, 119, 5, 120, 105, 106, 107, 108, 7, 121, 122, 123, 124, 125, 126, 127, 128, 129, 130, 131, 132, 101, 102, 103, 104, 133, 134, 135, 136, 137, 138, 139, 140, 141, 142, 143, 144, 145, 146, 147, 148, 149, 150, 151, 152, 153, 154, 155, 156, 157, 158, 159, 160, 161, 162, 163, 164, 165, 166, 167, 168, 169, 170, 171, 172, 173, 174, 175, 176, 177, 178, 179, 180, 181, 182, 183, 184, 185, 186, 187, 188, 189, 190, 191, 192, 193, 194, 195, 196, 197, 198, 199, 200, 201] (by decide +kernel) (by decide +kernel)
set_option maxRecDepth 20000 in
theorem gX8_extraCommand_X8_extra : GoodIn wsX8_extraCommand (wsV RX8 48 RX8 yX8_extra wsX8_extra) := goodIn_app (goodIn_of _ (by decide +kernel)) ggX8_extraCommand_X8_extra
theorem dX8_extraCommand_0 : decode cX8_extraCommand 0 = .ok (.aload_n 0, 1) := by decide +kernel
theorem dX8_extraCommand_1 : decode cX8_extraCommand 1 = .ok (.invokevirtual 295, 3) := by decide +kernel
theorem dX8_extraCommand_4 : decode cX8_extraCommand 4 = .ok (.istore_n 1, 1) := by decide +kernel
theorem dX8_extraCommand_5 : decode cX8_extraCommand 5 = .ok (.aload_n 0, 1) := by decide +kernel
theorem dX8_extraCommand_6 : decode cX8_extraCommand 6 = .ok (.iconst 1, 1) := by decide +kernel
theorem dX8_extraCommand_7 : decode cX8_extraCommand 7 = .ok (.ldc 154, 2) := by decide +kernel
theorem dX8_extraCommand_9 : decode cX8_extraCommand 9 = .ok (.invokevirtual 245, 3) := by decide +kernel
theorem dX8_extraCommand_12 : decode cX8_extraCommand 12 = .ok (.istore_n 2, 1) := by decide +kernel
theorem dX8_extraCommand_13 : decode cX8_extraCommand 13 = .ok (.aload_n 0, 1) := by decide +kernel
theorem dX8_extraCommand_14 : decode cX8_extraCommand 14 = .ok (.ldc_w 304, 3) := by decide +kernel
theorem dX8_extraCommand_17 : decode cX8_extraCommand 17 = .ok (.invokevirtual 256, 3) := by decide +kernel
theorem dX8_extraCommand_20 : decode cX8_extraCommand 20 = .ok (.istore_n 3, 1) := by decide +kernel
theorem dX8_extraCommand_21 : decode cX8_extraCommand 21 = .ok (.iload_n 3, 1) := by decide +kernel
theorem dX8_extraCommand_22 : decode cX8_extraCommand 22 = .ok (.ifCond .eq 7, 3) := by decide +kernel
theorem dX8_extraCommand_25 : decode cX8_extraCommand 25 = .ok (.aload_n 0, 1) := by decide +kernel
theorem dX8_extraCommand_26 : decode cX8_extraCommand 26 = .ok (.invokevirtual 236, 3) := by decide +kernel
theorem dX8_extraCommand_29 : decode cX8_extraCommand 29 = .ok (.aload_n 0, 1) := by decide +kernel
theorem dX8_extraCommand_30 : decode cX8_extraCommand 30 = .ok (.aload_n 0, 1) := by decide +kernel
theorem dX8_extraCommand_31 : decode cX8_extraCommand 31 = .ok (.invokevirtual 232, 3) := by decide +kernel
theorem dX8_extraCommand_34 : decode cX8_extraCommand 34 = .ok (.ifCond .eq 16, 3) := by decide +kernel
theorem dX8_extraCommand_37 : decode cX8_extraCommand 37 = .ok (.aload_n 0, 1) := by decide +kernel
theorem dX8_extraCommand_38 : decode cX8_extraCommand 38 = .ok (.iload_n 1, 1) := by decide +kernel
theorem dX8_extraCommand_39 : decode cX8_extraCommand 39 = .ok (.iload_n 2, 1) := by decide +kernel
theorem dX8_extraCommand_40 : decode cX8_extraCommand 40 = .ok (.invokevirtual 166, 3) := by decide +kernel
theorem dX8_extraCommand_43 : decode cX8_extraCommand 43 = .ok (.ifCond .ne 7, 3) := by decide +kernel
theorem dX8_extraCommand_46 : decode cX8_extraCommand 46 = .ok (.iconst 1, 1) := by decide +kernel
theorem dX8_extraCommand_47 : decode cX8_extraCommand 47 = .ok (.goto 4, 3) := by decide +kernel
theorem dX8_extraCommand_50 : decode cX8_extraCommand 50 = .ok (.iconst 0, 1) := by decide +kernel
theorem dX8_extraCommand_51 : decode cX8_extraCommand 51 = .ok (.invokevirtual 260, 3) := by decide +kernel
theorem dX8_extraCommand_54 : decode cX8_extraCommand 54 = .ok (.ifCond .eq 10, 3) := by decide +kernel
theorem dX8_extraCommand_57 : decode cX8_extraCommand 57 = .ok (.aload_n 0, 1) := by decide +kernel
theorem dX8_extraCommand_58 : decode cX8_extraCommand 58 = .ok (.iload_n 1, 1) := by decide +kernel
theorem dX8_extraCommand_59 : decode cX8_extraCommand 59 = .ok (.iload_n 2, 1) := by decide +kernel
theorem dX8_extraCommand_60 : decode cX8_extraCommand 60 = .ok (.iload_n 3, 1) := by decide +kernel
theorem dX8_extraCommand_61 : decode cX8_extraCommand 61 = .ok (.invokevirtual 48, 3) := by decide +kernel
theorem dX8_extraCommand_64 : decode cX8_extraCommand 64 = .ok (.return_, 1) := by decide +kernel
set_option maxRecDepth 20000 in
theorem ggX8_otherCommand_X8_isWord : GoodIn wsX8_otherCommand wsX8_isWord := goodIn_r _ [5, 6, 7, 8, 9, 10, 11, 12, 13, 14, 15, 16, 17, 18, 19, 20, 21, 22, 23, 24, 25, 26, 27, 28, 29, 30, 31, 32, 33, 34, 35, 36, 37, 38, 39, 40, 41, 42, 43, 44, 45, 46, 47, 48, 49, 50, 51, 52, 53, 54, 55, 56, 57, 58, 59, 177, 178, 179, 180, 181, 182, 183, 184, 185, 186, 187, 188, 189, 190, 191, 192, 193, 194, 195, 196, 197, 198, 199, 200, 201, 202, 203, 204, 205] (by decide +kernel) (by decide +kernel)
set_option maxRecDepth 20000 in
theorem gX8_otherCommand_X8_isWord : GoodIn wsX8_otherCommand (wsV RX8 256 RX8 yX8_isWord wsX8_isWord) := goodIn_app (goodIn_of _ (by decide +kernel)) ggX8_otherCommand_X8_isWord
set_option maxRecDepth 20000 in
theorem ggX8_otherCommand_X8_scan : GoodIn wsX8_otherCommand wsX8_scan := goodIn_r _ [63, 8, 64, 10, 9, 7, 65, 66, 67, 68, 4, 69, 70, 71, 72, 73, 177, 178, 179, 180, 181, 182, 183, 184, 185, 186, 187, 188, 189, 190, 191, 192, 193, 194, 195, 196, 197, 198, 199, 200, 201, 202, 203, 204, 205] (by decide +kernel) (by decide +kernel)
set_option maxRecDepth 20000 in
theorem gX8_otherCommand_X8_scan : GoodIn wsX8_otherCommand (wsV RX8 236 RX8 yX8_scan wsX8_scan) := goodIn_app (goodIn_of _ (by decide +kernel)) ggX8_otherCommand_X8_scan
set_option maxRecDepth 20000 in
theorem ggX8_otherCommand_X8_aLoan : GoodIn wsX8_otherCommand wsX8_aLoan := goodIn_r _ [77, 78, 79, 80, 81, 4, 82, 7, 65, 83, 84, 85, 86, 6, 9, 87, 88, 89, 90, 91, 92, 93, 94, 95, 60, 61, 62, 63, 8, 64, 10, 66, 67, 68, 69, 70, 71, 72, 73, 177, 178, 179, 180, 181, 182, 183, 184, 185, 186, 187, 188, 189, 190, 191, 192, 193, 194, 195, 196, 197, 198, 199, 200, 201, 202, 203, 204, 205] (by decide +kernel) (by decide +kernel)
set_option maxRecDepth 20000 in
theorem gX8_otherCommand_X8_aLoan : GoodIn wsX8_otherCommand (wsV RX8 295 RX8 yX8_aLoan wsX8_aLoan) := goodIn_app (goodIn_of _ (by decide +kernel)) ggX8_otherCommand_X8_aLoan
set_option maxRecDepth 20000 in
theorem ggX8_otherCommand_X8_good : GoodIn wsX8_otherCommand wsX8_good := goodIn_r _ [95, 6, 177, 178, 179, 180, 181, 182, 183, 184, 185, 186, 187, 188, 189, 190, 191, 192, 193, 194, 195, 196, 197, 198, 199, 200, 201, 202, 203, 204, 205] (by decide +kernel) (by decide +kernel)
set_option maxRecDepth 20000 in
theorem gX8_otherCommand_X8_good : GoodIn wsX8_otherCommand (wsV RX8 232 RX8 yX8_good wsX8_good) := goodIn_app (goodIn_of _ (by decide +kernel)) ggX8_otherCommand_X8_good
set_option maxRecDepth 20000 in
theorem ggX8_otherCommand_X8_cannotSkip : GoodIn wsX8_otherCommand wsX8_cannotSkip := goodIn_r _ [99, 100, 101, 102, 103, 104, 4, 105, 106, 107, 108, 109, 78, 110, 111, 112, 113, 114, 115, 116, 117, 118, 119, 120, 121, 122, 123, 124, 125, 126, 127, 128, 129, 130, 131, 177, 178, 179, 180, 181, 182, 183, 184, 185, 186, 187, 188, 189, 190, 191, 192, 193, 194, 195, 196, 197, 198, 199, 200, 201, 202, 203, 204, 205] (by decide +kernel) (by decide +kernel)
set_option maxRecDepth 20000 in
theorem gX8_otherCommand_X8_cannotSkip : GoodIn wsX8_otherCommand (wsV RX8 170 RX8 yX8_cannotSkip wsX8_cannotSkip) := goodIn_app (goodIn_of _ (by decide +kernel)) ggX8_otherCommand_X8_cannotSkip
set_option maxRecDepth 20000 in
theorem ggX8_otherCommand_X8_ends : GoodIn wsX8_otherCommand wsX8_ends := goodIn_r _ [135, 7, 83, 84, 85, 4, 86, 6, 9, 87, 92, 93, 94, 95, 177, 178, 179, 180, 181, 182, 183, 184, 185, 186, 187, 188, 189, 190, 191, 192, 193, 194, 195, 196, 197, 198, 199, 200, 201, 202, 203, 204, 205] (by decide +kernel) (by decide +kernel)
set_option maxRecDepth 20000 in
theorem gX8_otherCommand_X8_ends : GoodIn wsX8_otherCommand (wsV RX8 260 RX8 yX8_ends wsX8_ends) := goodIn_app (goodIn_of _ (by decide +kernel)) ggX8_otherCommand_X8_ends
set_option maxRecDepth 20000 in
theorem ggX8_otherCommand_X8_skip : GoodIn wsX8_otherCommand wsX8_skip := goodIn_r _ [139, 100, 123, 110, 111, 112, 4, 113, 114, 115, 116, 117, 106, 107, 108, 109, 78, 118, 119, 120, 121, 122, 124, 125, 126, 127, 128, 129, 130, 131, 140, 141, 142, 143, 144, 145, 146, 147, 148, 149, 150, 151, 152, 153, 154, 155, 156, 157, 158, 159, 160, 161, 162, 163, 164, 177, 178, 179, 180, 181, 182, 183, 184, 185, 186, 187, 188, 189, 190, 191, 192, 193, 194, 195, 196, 197, 198, 199, 200, 201, 202, 203, 204, 205] (by decide +kernel) (by decide +kernel)
set_option maxRecDepth 20000 in
theorem gX8_otherCommand_X8_skip : GoodIn wsX8_otherCommand (wsV RX8 52 RX8 yX8_skip wsX8_skip) := goodIn_app (goodIn_of _ (by decide +kernel)) ggX8_otherCommand_X8_skip
set_option maxRecDepth 20000 in
theorem ggX8_otherCommand_X8_number : GoodIn wsX8_otherCommand wsX8_number := goodIn_r _ [82, 7, 65, 83, 84, 85, 4, 86, 6, 9, 87, 88, 89, 90, 91, 92, 93, 94, 95, 60, 61, 62, 63, 8, 64, 10, 66, 67, 68, 69, 70, 71, 72, 73, 177, 178, 179, 180, 181, 182, 183, 184, 185, 186, 187, 188, 189, 190, 191, 192, 193, 194, 195, 196, 197, 198, 199, 200, 201, 202, 203, 204, 205] (by decide +kernel) (by decide +kernel)
set_option maxRecDepth 20000 in
theorem gX8_otherCommand_X8_number : GoodIn wsX8_otherCommand (wsV RX8 245 RX8 yX8_number wsX8_number) := goodIn_app (goodIn_of _ (by decide +kernel)) ggX8_otherCommand_X8_number
set_option maxRecDepth 20000 in
theorem ggX8_otherCommand_X8_isRunning : GoodIn wsX8_otherCommand wsX8_isRunning := goodIn_r _ [105, 106, 107, 108, 4, 109, 78, 177, 178, 179, 180, 181, 182, 183, 184, 185, 186, 187, 188, 189, 190, 191, 192, 193, 194, 195, 196, 197, 198, 199, 200, 201, 202, 203, 204, 205] (by decide +kernel) (by decide +kernel)
set_option maxRecDepth 20000 in
theorem gX8_otherCommand_X8_isRunning : GoodIn wsX8_otherCommand (wsV RX8 130 RX8 yX8_isRunning wsX8_isRunning) := goodIn_app (goodIn_of _ (by decide +kernel)) ggX8_otherCommand_X8_isRunning
set_option maxRecDepth 20000 in
theorem ggX8_otherCommand_X8_setRate : GoodIn wsX8_otherCommand wsX8_setRate := goodIn_r _ [168, 140, 141, 142, 4, 143, 78, 148, 149, 150, 151, 106, 107, 108, 109, 152, 153, 154, 155, 126, 156, 114, 115, 116, 117, 118, 119, 120, 121, 122, 123, 124, 125, 100, 127, 128, 129, 130, 131, 157, 158, 159, 160, 161, 162, 163, 164, 177, 178, 179, 180, 181, 182, 183, 184, 185, 186, 187, 188, 189, 190, 191, 192, 193, 194, 195, 196, 197, 198, 199, 200, 201, 202, 203, 204, 205] (by decide +kernel) (by decide +kernel)
set_option maxRecDepth 20000 in
theorem gX8_otherCommand_X8_setRate : GoodIn wsX8_otherCommand (wsV RX8 173 RX8 yX8_setRate wsX8_setRate) := goodIn_app (goodIn_of _ (by decide +kernel)) ggX8_otherCommand_X8_setRate
set_option maxRecDepth 20000 in
theorem ggX8_otherCommand_X8_cannotExtend : GoodIn wsX8_otherCommand wsX8_cannotExtend := goodIn_r _ [172, 102, 103, 104, 4, 105, 106, 107, 108, 109, 78, 177, 178, 179, 180, 181, 182, 183, 184, 185, 186, 187, 188, 189, 190, 191, 192, 193, 194, 195, 196, 197, 198, 199, 200, 201, 202, 203, 204, 205] (by decide +kernel) (by decide +kernel)
set_option maxRecDepth 20000 in
theorem gX8_otherCommand_X8_cannotExtend : GoodIn wsX8_otherCommand (wsV RX8 177 RX8 yX8_cannotExtend wsX8_cannotExtend) := goodIn_app (goodIn_of _ (by decide +kernel)) ggX8_otherCommand_X8_cannotExtend
set_option maxRecDepth 20000 in
theorem ggX8_otherCommand_X8_extend : GoodIn wsX8_otherCommand wsX8_extend := goodIn_r _ [176, 144, 145, 146, 4, 147, 106, 107, 108, 109, 78, 140, 141, 142, 143, 148, 149, 150, 151, 152, 153, 154, 155, 126, 156, 114, 115, 116, 117, 118, 119, 120, 121, 122, 123, 124, 125, 100, 127, 128, 129, 130, 131, 157, 158, 159, 160, 161, 162, 163, 164, 177, 178, 179, 180, 181, 182, 183, 184, 185, 186, 187, 188, 189, 190, 191, 192, 193, 194, 195, 196, 197, 198, 199, 200, 201, 202, 203, 204, 205] (by decide +kernel) (by decide +kernel)
set_option maxRecDepth 20000 in
theorem gX8_otherCommand_X8_extend : GoodIn wsX8_otherCommand (wsV RX8 180 RX8 yX8_extend wsX8_extend) := goodIn_app (goodIn_of _ (by decide +kernel)) ggX8_otherCommand_X8_extend
theorem dX8_otherCommand_0 : decode cX8_otherCommand 0 = .ok (.aload_n 0, 1) := by decide +kernel
theorem dX8_otherCommand_1 : decode cX8_otherCommand 1 = .ok (.ldc_w 280, 3) := by decide +kernel
theorem dX8_otherCommand_4 : decode cX8_otherCommand 4 = .ok (.invokevirtual 256, 3) := by decide +kernel
theorem dX8_otherCommand_7 : decode cX8_otherCommand 7 = .ok (.ifCond .eq 48, 3) := by decide +kernel
theorem dX8_otherCommand_10 : decode cX8_otherCommand 10 = .ok (.aload_n 0, 1) := by decide +kernel
theorem dX8_otherCommand_11 : decode cX8_otherCommand 11 = .ok (.invokevirtual 236, 3) := by decide +kernel
theorem dX8_otherCommand_14 : decode cX8_otherCommand 14 = .ok (.aload_n 0, 1) := by decide +kernel
theorem dX8_otherCommand_15 : decode cX8_otherCommand 15 = .ok (.invokevirtual 295, 3) := by decide +kernel
theorem dX8_otherCommand_18 : decode cX8_otherCommand 18 = .ok (.istore_n 1, 1) := by decide +kernel
theorem dX8_otherCommand_19 : decode cX8_otherCommand 19 = .ok (.aload_n 0, 1) := by decide +kernel
theorem dX8_otherCommand_20 : decode cX8_otherCommand 20 = .ok (.aload_n 0, 1) := by decide +kernel
theorem dX8_otherCommand_21 : decode cX8_otherCommand 21 = .ok (.invokevirtual 232, 3) := by decide +kernel
theorem dX8_otherCommand_24 : decode cX8_otherCommand 24 = .ok (.ifCond .eq 15, 3) := by decide +kernel
theorem dX8_otherCommand_27 : decode cX8_otherCommand 27 = .ok (.aload_n 0, 1) := by decide +kernel
theorem dX8_otherCommand_28 : decode cX8_otherCommand 28 = .ok (.iload_n 1, 1) := by decide +kernel
theorem dX8_otherCommand_29 : decode cX8_otherCommand 29 = .ok (.invokevirtual 170, 3) := by decide +kernel
theorem dX8_otherCommand_32 : decode cX8_otherCommand 32 = .ok (.ifCond .ne 7, 3) := by decide +kernel
theorem dX8_otherCommand_35 : decode cX8_otherCommand 35 = .ok (.iconst 1, 1) := by decide +kernel
theorem dX8_otherCommand_36 : decode cX8_otherCommand 36 = .ok (.goto 4, 3) := by decide +kernel
theorem dX8_otherCommand_39 : decode cX8_otherCommand 39 = .ok (.iconst 0, 1) := by decide +kernel
theorem dX8_otherCommand_40 : decode cX8_otherCommand 40 = .ok (.invokevirtual 260, 3) := by decide +kernel
theorem dX8_otherCommand_43 : decode cX8_otherCommand 43 = .ok (.ifCond .eq 9, 3) := by decide +kernel
theorem dX8_otherCommand_46 : decode cX8_otherCommand 46 = .ok (.aload_n 0, 1) := by decide +kernel
theorem dX8_otherCommand_47 : decode cX8_otherCommand 47 = .ok (.iload_n 1, 1) := by decide +kernel
theorem dX8_otherCommand_48 : decode cX8_otherCommand 48 = .ok (.invokevirtual 52, 3) := by decide +kernel
theorem dX8_otherCommand_51 : decode cX8_otherCommand 51 = .ok (.istore_n 2, 1) := by decide +kernel
theorem dX8_otherCommand_52 : decode cX8_otherCommand 52 = .ok (.goto 128, 3) := by decide +kernel
theorem dX8_otherCommand_55 : decode cX8_otherCommand 55 = .ok (.aload_n 0, 1) := by decide +kernel
theorem dX8_otherCommand_56 : decode cX8_otherCommand 56 = .ok (.ldc_w 281, 3) := by decide +kernel
theorem dX8_otherCommand_59 : decode cX8_otherCommand 59 = .ok (.invokevirtual 256, 3) := by decide +kernel
theorem dX8_otherCommand_62 : decode cX8_otherCommand 62 = .ok (.ifCond .eq 57, 3) := by decide +kernel
theorem dX8_otherCommand_65 : decode cX8_otherCommand 65 = .ok (.aload_n 0, 1) := by decide +kernel
theorem dX8_otherCommand_66 : decode cX8_otherCommand 66 = .ok (.invokevirtual 236, 3) := by decide +kernel
theorem dX8_otherCommand_69 : decode cX8_otherCommand 69 = .ok (.aload_n 0, 1) := by decide +kernel
theorem dX8_otherCommand_70 : decode cX8_otherCommand 70 = .ok (.invokevirtual 295, 3) := by decide +kernel
theorem dX8_otherCommand_73 : decode cX8_otherCommand 73 = .ok (.istore_n 1, 1) := by decide +kernel
theorem dX8_otherCommand_74 : decode cX8_otherCommand 74 = .ok (.aload_n 0, 1) := by decide +kernel
theorem dX8_otherCommand_75 : decode cX8_otherCommand 75 = .ok (.iconst 0, 1) := by decide +kernel
theorem dX8_otherCommand_76 : decode cX8_otherCommand 76 = .ok (.sipush 3000, 3) := by decide +kernel
theorem dX8_otherCommand_79 : decode cX8_otherCommand 79 = .ok (.invokevirtual 245, 3) := by decide +kernel
theorem dX8_otherCommand_82 : decode cX8_otherCommand 82 = .ok (.istore_n 2, 1) := by decide +kernel
theorem dX8_otherCommand_83 : decode cX8_otherCommand 83 = .ok (.aload_n 0, 1) := by decide +kernel
theorem dX8_otherCommand_84 : decode cX8_otherCommand 84 = .ok (.aload_n 0, 1) := by decide +kernel
theorem dX8_otherCommand_85 : decode cX8_otherCommand 85 = .ok (.invokevirtual 232, 3) := by decide +kernel
theorem dX8_otherCommand_88 : decode cX8_otherCommand 88 = .ok (.ifCond .eq 15, 3) := by decide +kernel
theorem dX8_otherCommand_91 : decode cX8_otherCommand 91 = .ok (.aload_n 0, 1) := by decide +kernel
theorem dX8_otherCommand_92 : decode cX8_otherCommand 92 = .ok (.iload_n 1, 1) := by decide +kernel
theorem dX8_otherCommand_93 : decode cX8_otherCommand 93 = .ok (.invokevirtual 130, 3) := by decide +kernel
theorem dX8_otherCommand_96 : decode cX8_otherCommand 96 = .ok (.ifCond .eq 7, 3) := by decide +kernel
theorem dX8_otherCommand_99 : decode cX8_otherCommand 99 = .ok (.iconst 1, 1) := by decide +kernel
theorem dX8_otherCommand_100 : decode cX8_otherCommand 100 = .ok (.goto 4, 3) := by decide +kernel
theorem dX8_otherCommand_103 : decode cX8_otherCommand 103 = .ok (.iconst 0, 1) := by decide +kernel
theorem dX8_otherCommand_104 : decode cX8_otherCommand 104 = .ok (.invokevirtual 260, 3) := by decide +kernel
theorem dX8_otherCommand_107 : decode cX8_otherCommand 107 = .ok (.ifCond .eq 9, 3) := by decide +kernel
theorem dX8_otherCommand_110 : decode cX8_otherCommand 110 = .ok (.aload_n 0, 1) := by decide +kernel
theorem dX8_otherCommand_111 : decode cX8_otherCommand 111 = .ok (.iload_n 1, 1) := by decide +kernel
theorem dX8_otherCommand_112 : decode cX8_otherCommand 112 = .ok (.iload_n 2, 1) := by decide +kernel
theorem dX8_otherCommand_113 : decode cX8_otherCommand 113 = .ok (.invokevirtual 173, 3) := by decide +kernel
theorem dX8_otherCommand_116 : decode cX8_otherCommand 116 = .ok (.goto 64, 3) := by decide +kernel
theorem dX8_otherCommand_119 : decode cX8_otherCommand 119 = .ok (.aload_n 0, 1) := by decide +kernel
theorem dX8_otherCommand_120 : decode cX8_otherCommand 120 = .ok (.ldc_w 283, 3) := by decide +kernel
theorem dX8_otherCommand_123 : decode cX8_otherCommand 123 = .ok (.invokevirtual 256, 3) := by decide +kernel
theorem dX8_otherCommand_126 : decode cX8_otherCommand 126 = .ok (.ifCond .eq 54, 3) := by decide +kernel
theorem dX8_otherCommand_129 : decode cX8_otherCommand 129 = .ok (.aload_n 0, 1) := by decide +kernel
theorem dX8_otherCommand_130 : decode cX8_otherCommand 130 = .ok (.invokevirtual 236, 3) := by decide +kernel
theorem dX8_otherCommand_133 : decode cX8_otherCommand 133 = .ok (.aload_n 0, 1) := by decide +kernel
theorem dX8_otherCommand_134 : decode cX8_otherCommand 134 = .ok (.invokevirtual 295, 3) := by decide +kernel
theorem dX8_otherCommand_137 : decode cX8_otherCommand 137 = .ok (.istore_n 1, 1) := by decide +kernel
theorem dX8_otherCommand_138 : decode cX8_otherCommand 138 = .ok (.aload_n 0, 1) := by decide +kernel
theorem dX8_otherCommand_139 : decode cX8_otherCommand 139 = .ok (.iconst 1, 1) := by decide +kernel
theorem dX8_otherCommand_140 : decode cX8_otherCommand 140 = .ok (.bipush 60, 2) := by decide +kernel
theorem dX8_otherCommand_142 : decode cX8_otherCommand 142 = .ok (.invokevirtual 245, 3) := by decide +kernel
theorem dX8_otherCommand_145 : decode cX8_otherCommand 145 = .ok (.istore_n 2, 1) := by decide +kernel
theorem dX8_otherCommand_146 : decode cX8_otherCommand 146 = .ok (.aload_n 0, 1) := by decide +kernel
theorem dX8_otherCommand_147 : decode cX8_otherCommand 147 = .ok (.aload_n 0, 1) := by decide +kernel
theorem dX8_otherCommand_148 : decode cX8_otherCommand 148 = .ok (.invokevirtual 232, 3) := by decide +kernel
theorem dX8_otherCommand_151 : decode cX8_otherCommand 151 = .ok (.ifCond .eq 16, 3) := by decide +kernel
theorem dX8_otherCommand_154 : decode cX8_otherCommand 154 = .ok (.aload_n 0, 1) := by decide +kernel
theorem dX8_otherCommand_155 : decode cX8_otherCommand 155 = .ok (.iload_n 1, 1) := by decide +kernel
theorem dX8_otherCommand_156 : decode cX8_otherCommand 156 = .ok (.iload_n 2, 1) := by decide +kernel
theorem dX8_otherCommand_157 : decode cX8_otherCommand 157 = .ok (.invokevirtual 177, 3) := by decide +kernel
theorem dX8_otherCommand_160 : decode cX8_otherCommand 160 = .ok (.ifCond .ne 7, 3) := by decide +kernel
theorem dX8_otherCommand_163 : decode cX8_otherCommand 163 = .ok (.iconst 1, 1) := by decide +kernel
theorem dX8_otherCommand_164 : decode cX8_otherCommand 164 = .ok (.goto 4, 3) := by decide +kernel
theorem dX8_otherCommand_167 : decode cX8_otherCommand 167 = .ok (.iconst 0, 1) := by decide +kernel
theorem dX8_otherCommand_168 : decode cX8_otherCommand 168 = .ok (.invokevirtual 260, 3) := by decide +kernel
theorem dX8_otherCommand_171 : decode cX8_otherCommand 171 = .ok (.ifCond .eq 9, 3) := by decide +kernel
theorem dX8_otherCommand_174 : decode cX8_otherCommand 174 = .ok (.aload_n 0, 1) := by decide +kernel
theorem dX8_otherCommand_175 : decode cX8_otherCommand 175 = .ok (.iload_n 1, 1) := by decide +kernel
theorem dX8_otherCommand_176 : decode cX8_otherCommand 176 = .ok (.iload_n 2, 1) := by decide +kernel
theorem dX8_otherCommand_177 : decode cX8_otherCommand 177 = .ok (.invokevirtual 180, 3) := by decide +kernel
theorem dX8_otherCommand_180 : decode cX8_otherCommand 180 = .ok (.return_, 1) := by decide +kernel
theorem dX8_type_0 : decode cX8_type 0 = .ok (.bipush 24, 2) := by decide +kernel
theorem dX8_type_2 : decode cX8_type 2 = .ok (.istore_n 2, 1) := by decide +kernel
theorem dX8_type_3 : decode cX8_type 3 = .ok (.iload_n 2, 1) := by decide +kernel
theorem dX8_type_4 : decode cX8_type 4 = .ok (.ifCond .lt 35, 3) := by decide +kernel
theorem dX8_type_7 : decode cX8_type 7 = .ok (.aload_n 0, 1) := by decide +kernel
theorem dX8_type_8 : decode cX8_type 8 = .ok (.getfield 27, 3) := by decide +kernel
theorem dX8_type_11 : decode cX8_type 11 = .ok (.aload_n 0, 1) := by decide +kernel
theorem dX8_type_12 : decode cX8_type 12 = .ok (.getfield 196, 3) := by decide +kernel
theorem dX8_type_15 : decode cX8_type 15 = .ok (.iload_n 1, 1) := by decide +kernel
theorem dX8_type_16 : decode cX8_type 16 = .ok (.iload_n 2, 1) := by decide +kernel
theorem dX8_type_17 : decode cX8_type 17 = .ok (.iushr, 1) := by decide +kernel
theorem dX8_type_18 : decode cX8_type 18 = .ok (.sipush 255, 3) := by decide +kernel
theorem dX8_type_21 : decode cX8_type 21 = .ok (.iand, 1) := by decide +kernel
theorem dX8_type_22 : decode cX8_type 22 = .ok (.iastore, 1) := by decide +kernel
theorem dX8_type_23 : decode cX8_type 23 = .ok (.aload_n 0, 1) := by decide +kernel
theorem dX8_type_24 : decode cX8_type 24 = .ok (.dup, 1) := by decide +kernel
theorem dX8_type_25 : decode cX8_type 25 = .ok (.getfield 196, 3) := by decide +kernel
theorem dX8_type_28 : decode cX8_type 28 = .ok (.iconst 1, 1) := by decide +kernel
theorem dX8_type_29 : decode cX8_type 29 = .ok (.iadd, 1) := by decide +kernel
theorem dX8_type_30 : decode cX8_type 30 = .ok (.putfield 196, 3) := by decide +kernel
theorem dX8_type_33 : decode cX8_type 33 = .ok (.iinc 2 (-8), 3) := by decide +kernel
theorem dX8_type_36 : decode cX8_type 36 = .ok (.goto (-33), 3) := by decide +kernel
theorem dX8_type_39 : decode cX8_type 39 = .ok (.return_, 1) := by decide +kernel
set_option maxRecDepth 20000 in
theorem ggX8_append_X8_type : GoodIn wsX8_append wsX8_type := goodIn_r _ [7, 8, 2, 9, 10, 11, 12, 13, 14, 15, 16, 17, 18, 19, 20, 21, 22, 23, 24, 25, 26, 27, 28, 29, 30, 31, 32, 33, 34, 35, 36, 37] (by decide +kernel) (by decide +kernel)
set_option maxRecDepth 20000 in
theorem gX8_append_X8_type : GoodIn wsX8_append (wsV RX8 306 RX8 yX8_type wsX8_type) := goodIn_app (goodIn_of _ (by decide +kernel)) ggX8_append_X8_type
theorem dX8_append_0 : decode cX8_append 0 = .ok (.aload_n 0, 1) := by decide +kernel
theorem dX8_append_1 : decode cX8_append 1 = .ok (.iconst 0, 1) := by decide +kernel
theorem dX8_append_2 : decode cX8_append 2 = .ok (.putfield 56, 3) := by decide +kernel
theorem dX8_append_5 : decode cX8_append 5 = .ok (.aload_n 0, 1) := by decide +kernel
theorem dX8_append_6 : decode cX8_append 6 = .ok (.getfield 196, 3) := by decide +kernel
theorem dX8_append_9 : decode cX8_append 9 = .ok (.bipush 20, 2) := by decide +kernel
theorem dX8_append_11 : decode cX8_append 11 = .ok (.iadd, 1) := by decide +kernel
theorem dX8_append_12 : decode cX8_append 12 = .ok (.sipush 500, 3) := by decide +kernel
theorem dX8_append_15 : decode cX8_append 15 = .ok (.if_icmp .le 6, 3) := by decide +kernel
theorem dX8_append_18 : decode cX8_append 18 = .ok (.bipush (-2), 2) := by decide +kernel
theorem dX8_append_20 : decode cX8_append 20 = .ok (.ireturn, 1) := by decide +kernel
theorem dX8_append_21 : decode cX8_append 21 = .ok (.aload_n 0, 1) := by decide +kernel
theorem dX8_append_22 : decode cX8_append 22 = .ok (.iload_n 1, 1) := by decide +kernel
theorem dX8_append_23 : decode cX8_append 23 = .ok (.invokevirtual 306, 3) := by decide +kernel
theorem dX8_append_26 : decode cX8_append 26 = .ok (.aload_n 0, 1) := by decide +kernel
theorem dX8_append_27 : decode cX8_append 27 = .ok (.iload_n 2, 1) := by decide +kernel
theorem dX8_append_28 : decode cX8_append 28 = .ok (.invokevirtual 306, 3) := by decide +kernel
theorem dX8_append_31 : decode cX8_append 31 = .ok (.aload_n 0, 1) := by decide +kernel
theorem dX8_append_32 : decode cX8_append 32 = .ok (.iload_n 3, 1) := by decide +kernel
theorem dX8_append_33 : decode cX8_append 33 = .ok (.invokevirtual 306, 3) := by decide +kernel
theorem dX8_append_36 : decode cX8_append 36 = .ok (.aload_n 0, 1) := by decide +kernel
theorem dX8_append_37 : decode cX8_append 37 = .ok (.iload 4, 2) := by decide +kernel
theorem dX8_append_39 : decode cX8_append 39 = .ok (.invokevirtual 306, 3) := by decide +kernel
theorem dX8_append_42 : decode cX8_append 42 = .ok (.aload_n 0, 1) := by decide +kernel
theorem dX8_append_43 : decode cX8_append 43 = .ok (.iload 5, 2) := by decide +kernel
theorem dX8_append_45 : decode cX8_append 45 = .ok (.invokevirtual 306, 3) := by decide +kernel
theorem dX8_append_48 : decode cX8_append 48 = .ok (.aload_n 0, 1) := by decide +kernel
theorem dX8_append_49 : decode cX8_append 49 = .ok (.getfield 196, 3) := by decide +kernel
theorem dX8_append_52 : decode cX8_append 52 = .ok (.ireturn, 1) := by decide +kernel
set_option maxRecDepth 20000 in
theorem ggX8_truncateInput_X8_outside : GoodIn wsX8_truncateInput wsX8_outside := goodIn_r _ [7, 1, 8, 9, 10, 11, 12, 13, 14, 15, 16, 17, 18, 19, 20, 21, 22, 23, 24, 25, 26, 27, 28, 29, 30, 31, 32, 33, 34, 35, 36] (by decide +kernel) (by decide +kernel)
set_option maxRecDepth 20000 in
theorem gX8_truncateInput_X8_outside : GoodIn wsX8_truncateInput (wsV RX8 66 RX8 yX8_outside wsX8_outside) := goodIn_app (goodIn_of _ (by decide +kernel)) ggX8_truncateInput_X8_outside
theorem dX8_truncateInput_0 : decode cX8_truncateInput 0 = .ok (.aload_n 0, 1) := by decide +kernel
theorem dX8_truncateInput_1 : decode cX8_truncateInput 1 = .ok (.iconst 0, 1) := by decide +kernel
theorem dX8_truncateInput_2 : decode cX8_truncateInput 2 = .ok (.putfield 56, 3) := by decide +kernel
theorem dX8_truncateInput_5 : decode cX8_truncateInput 5 = .ok (.aload_n 0, 1) := by decide +kernel
theorem dX8_truncateInput_6 : decode cX8_truncateInput 6 = .ok (.iload_n 1, 1) := by decide +kernel
theorem dX8_truncateInput_7 : decode cX8_truncateInput 7 = .ok (.iconst 0, 1) := by decide +kernel
theorem dX8_truncateInput_8 : decode cX8_truncateInput 8 = .ok (.aload_n 0, 1) := by decide +kernel
theorem dX8_truncateInput_9 : decode cX8_truncateInput 9 = .ok (.getfield 196, 3) := by decide +kernel
theorem dX8_truncateInput_12 : decode cX8_truncateInput 12 = .ok (.iconst 1, 1) := by decide +kernel
theorem dX8_truncateInput_13 : decode cX8_truncateInput 13 = .ok (.invokevirtual 66, 3) := by decide +kernel
theorem dX8_truncateInput_16 : decode cX8_truncateInput 16 = .ok (.ifCond .eq 5, 3) := by decide +kernel
theorem dX8_truncateInput_19 : decode cX8_truncateInput 19 = .ok (.iconst 0, 1) := by decide +kernel
theorem dX8_truncateInput_20 : decode cX8_truncateInput 20 = .ok (.ireturn, 1) := by decide +kernel
theorem dX8_truncateInput_21 : decode cX8_truncateInput 21 = .ok (.aload_n 0, 1) := by decide +kernel
theorem dX8_truncateInput_22 : decode cX8_truncateInput 22 = .ok (.iload_n 1, 1) := by decide +kernel
theorem dX8_truncateInput_23 : decode cX8_truncateInput 23 = .ok (.putfield 196, 3) := by decide +kernel
theorem dX8_truncateInput_26 : decode cX8_truncateInput 26 = .ok (.aload_n 0, 1) := by decide +kernel
theorem dX8_truncateInput_27 : decode cX8_truncateInput 27 = .ok (.getfield 196, 3) := by decide +kernel
theorem dX8_truncateInput_30 : decode cX8_truncateInput 30 = .ok (.ireturn, 1) := by decide +kernel
theorem dX8_inputLength_0 : decode cX8_inputLength 0 = .ok (.aload_n 0, 1) := by decide +kernel
theorem dX8_inputLength_1 : decode cX8_inputLength 1 = .ok (.iconst 0, 1) := by decide +kernel
theorem dX8_inputLength_2 : decode cX8_inputLength 2 = .ok (.putfield 56, 3) := by decide +kernel
theorem dX8_inputLength_5 : decode cX8_inputLength 5 = .ok (.aload_n 0, 1) := by decide +kernel
theorem dX8_inputLength_6 : decode cX8_inputLength 6 = .ok (.getfield 196, 3) := by decide +kernel
theorem dX8_inputLength_9 : decode cX8_inputLength 9 = .ok (.ireturn, 1) := by decide +kernel
theorem dX8_scriptErrorKind_0 : decode cX8_scriptErrorKind 0 = .ok (.aload_n 0, 1) := by decide +kernel
theorem dX8_scriptErrorKind_1 : decode cX8_scriptErrorKind 1 = .ok (.iconst 0, 1) := by decide +kernel
theorem dX8_scriptErrorKind_2 : decode cX8_scriptErrorKind 2 = .ok (.putfield 56, 3) := by decide +kernel
theorem dX8_scriptErrorKind_5 : decode cX8_scriptErrorKind 5 = .ok (.aload_n 0, 1) := by decide +kernel
theorem dX8_scriptErrorKind_6 : decode cX8_scriptErrorKind 6 = .ok (.getfield 270, 3) := by decide +kernel
theorem dX8_scriptErrorKind_9 : decode cX8_scriptErrorKind 9 = .ok (.ireturn, 1) := by decide +kernel
theorem dX8_scriptErrorOffset_0 : decode cX8_scriptErrorOffset 0 = .ok (.aload_n 0, 1) := by decide +kernel
theorem dX8_scriptErrorOffset_1 : decode cX8_scriptErrorOffset 1 = .ok (.iconst 0, 1) := by decide +kernel
theorem dX8_scriptErrorOffset_2 : decode cX8_scriptErrorOffset 2 = .ok (.putfield 56, 3) := by decide +kernel
theorem dX8_scriptErrorOffset_5 : decode cX8_scriptErrorOffset 5 = .ok (.aload_n 0, 1) := by decide +kernel
theorem dX8_scriptErrorOffset_6 : decode cX8_scriptErrorOffset 6 = .ok (.getfield 34, 3) := by decide +kernel
theorem dX8_scriptErrorOffset_9 : decode cX8_scriptErrorOffset 9 = .ok (.ireturn, 1) := by decide +kernel
theorem dX8_loanCount_0 : decode cX8_loanCount 0 = .ok (.aload_n 0, 1) := by decide +kernel
theorem dX8_loanCount_1 : decode cX8_loanCount 1 = .ok (.iconst 0, 1) := by decide +kernel
theorem dX8_loanCount_2 : decode cX8_loanCount 2 = .ok (.putfield 56, 3) := by decide +kernel
theorem dX8_loanCount_5 : decode cX8_loanCount 5 = .ok (.aload_n 0, 1) := by decide +kernel
theorem dX8_loanCount_6 : decode cX8_loanCount 6 = .ok (.getfield 9, 3) := by decide +kernel
theorem dX8_loanCount_9 : decode cX8_loanCount 9 = .ok (.iconst 0, 1) := by decide +kernel
theorem dX8_loanCount_10 : decode cX8_loanCount 10 = .ok (.iaload, 1) := by decide +kernel
theorem dX8_loanCount_11 : decode cX8_loanCount 11 = .ok (.ireturn, 1) := by decide +kernel
set_option maxRecDepth 20000 in
theorem ggX8_openLoans_X8_isRunning : GoodIn wsX8_openLoans wsX8_isRunning := goodIn_r _ [6, 7, 8, 9, 5, 10, 1, 11, 12, 13, 14, 15, 16, 17, 18, 19, 20, 21, 22, 23, 24, 25, 26, 27, 28, 29, 30, 31, 32, 33, 34, 35, 36, 37, 38, 39] (by decide +kernel) (by decide +kernel)
set_option maxRecDepth 20000 in
theorem gX8_openLoans_X8_isRunning : GoodIn wsX8_openLoans (wsV RX8 130 RX8 yX8_isRunning wsX8_isRunning) := goodIn_app (goodIn_of _ (by decide +kernel)) ggX8_openLoans_X8_isRunning
theorem dX8_openLoans_0 : decode cX8_openLoans 0 = .ok (.iconst 0, 1) := by decide +kernel
theorem dX8_openLoans_1 : decode cX8_openLoans 1 = .ok (.istore_n 1, 1) := by decide +kernel
theorem dX8_openLoans_2 : decode cX8_openLoans 2 = .ok (.iconst 0, 1) := by decide +kernel
theorem dX8_openLoans_3 : decode cX8_openLoans 3 = .ok (.istore_n 2, 1) := by decide +kernel
theorem dX8_openLoans_4 : decode cX8_openLoans 4 = .ok (.iload_n 2, 1) := by decide +kernel
theorem dX8_openLoans_5 : decode cX8_openLoans 5 = .ok (.aload_n 0, 1) := by decide +kernel
theorem dX8_openLoans_6 : decode cX8_openLoans 6 = .ok (.getfield 9, 3) := by decide +kernel
theorem dX8_openLoans_9 : decode cX8_openLoans 9 = .ok (.iconst 0, 1) := by decide +kernel
theorem dX8_openLoans_10 : decode cX8_openLoans 10 = .ok (.iaload, 1) := by decide +kernel
theorem dX8_openLoans_11 : decode cX8_openLoans 11 = .ok (.if_icmp .ge 25, 3) := by decide +kernel
theorem dX8_openLoans_14 : decode cX8_openLoans 14 = .ok (.iload_n 1, 1) := by decide +kernel
theorem dX8_openLoans_15 : decode cX8_openLoans 15 = .ok (.aload_n 0, 1) := by decide +kernel
theorem dX8_openLoans_16 : decode cX8_openLoans 16 = .ok (.iload_n 2, 1) := by decide +kernel
theorem dX8_openLoans_17 : decode cX8_openLoans 17 = .ok (.invokevirtual 130, 3) := by decide +kernel
theorem dX8_openLoans_20 : decode cX8_openLoans 20 = .ok (.ifCond .eq 7, 3) := by decide +kernel
theorem dX8_openLoans_23 : decode cX8_openLoans 23 = .ok (.iconst 1, 1) := by decide +kernel
theorem dX8_openLoans_24 : decode cX8_openLoans 24 = .ok (.goto 4, 3) := by decide +kernel
theorem dX8_openLoans_27 : decode cX8_openLoans 27 = .ok (.iconst 0, 1) := by decide +kernel
theorem dX8_openLoans_28 : decode cX8_openLoans 28 = .ok (.iadd, 1) := by decide +kernel
theorem dX8_openLoans_29 : decode cX8_openLoans 29 = .ok (.istore_n 1, 1) := by decide +kernel
theorem dX8_openLoans_30 : decode cX8_openLoans 30 = .ok (.iinc 2 1, 3) := by decide +kernel
theorem dX8_openLoans_33 : decode cX8_openLoans 33 = .ok (.goto (-29), 3) := by decide +kernel
theorem dX8_openLoans_36 : decode cX8_openLoans 36 = .ok (.iload_n 1, 1) := by decide +kernel
theorem dX8_openLoans_37 : decode cX8_openLoans 37 = .ok (.ireturn, 1) := by decide +kernel
set_option maxRecDepth 20000 in
theorem ggX8_openCount_X8_openLoans : GoodIn wsX8_openCount wsX8_openLoans := goodIn_r _ [6, 7, 8, 9, 10, 5, 11, 12, 13, 14, 15, 16, 17, 18, 19, 20, 21, 22, 23, 24, 25, 26, 27, 28, 29, 30, 31, 32, 33, 34, 35, 36, 37, 38, 39, 40, 41, 42, 43, 44] (by decide +kernel) (by decide +kernel)
set_option maxRecDepth 20000 in
theorem gX8_openCount_X8_openLoans : GoodIn wsX8_openCount (wsV RX8 309 RX8 yX8_openLoans wsX8_openLoans) := goodIn_app (goodIn_of _ (by decide +kernel)) ggX8_openCount_X8_openLoans
theorem dX8_openCount_0 : decode cX8_openCount 0 = .ok (.aload_n 0, 1) := by decide +kernel
theorem dX8_openCount_1 : decode cX8_openCount 1 = .ok (.iconst 0, 1) := by decide +kernel
theorem dX8_openCount_2 : decode cX8_openCount 2 = .ok (.putfield 56, 3) := by decide +kernel
theorem dX8_openCount_5 : decode cX8_openCount 5 = .ok (.aload_n 0, 1) := by decide +kernel
theorem dX8_openCount_6 : decode cX8_openCount 6 = .ok (.invokevirtual 309, 3) := by decide +kernel
theorem dX8_openCount_9 : decode cX8_openCount 9 = .ok (.ireturn, 1) := by decide +kernel
set_option maxRecDepth 20000 in
theorem ggX8_isOpen_X8_noLoan : GoodIn wsX8_isOpen wsX8_noLoan := goodIn_r _ [6, 7, 8, 9, 10, 5, 11, 1, 20, 21, 22, 23, 24, 25, 26, 27, 28, 29, 30, 31, 32, 33, 34, 35, 36, 37, 38, 39, 40, 41, 42, 43, 44, 45, 46, 47, 48] (by decide +kernel) (by decide +kernel)
set_option maxRecDepth 20000 in
theorem gX8_isOpen_X8_noLoan : GoodIn wsX8_isOpen (wsV RX8 163 RX8 yX8_noLoan wsX8_noLoan) := goodIn_app (goodIn_of _ (by decide +kernel)) ggX8_isOpen_X8_noLoan
set_option maxRecDepth 20000 in
theorem ggX8_isOpen_X8_isRunning : GoodIn wsX8_isOpen wsX8_isRunning := goodIn_r _ [15, 16, 17, 18, 5, 19, 7, 20, 21, 22, 23, 24, 25, 26, 27, 28, 29, 30, 31, 32, 33, 34, 35, 36, 37, 38, 39, 40, 41, 42, 43, 44, 45, 46, 47, 48] (by decide +kernel) (by decide +kernel)
set_option maxRecDepth 20000 in
theorem gX8_isOpen_X8_isRunning : GoodIn wsX8_isOpen (wsV RX8 130 RX8 yX8_isRunning wsX8_isRunning) := goodIn_app (goodIn_of _ (by decide +kernel)) ggX8_isOpen_X8_isRunning
theorem dX8_isOpen_0 : decode cX8_isOpen 0 = .ok (.aload_n 0, 1) := by decide +kernel
theorem dX8_isOpen_1 : decode cX8_isOpen 1 = .ok (.iconst 0, 1) := by decide +kernel
theorem dX8_isOpen_2 : decode cX8_isOpen 2 = .ok (.putfield 56, 3) := by decide +kernel
theorem dX8_isOpen_5 : decode cX8_isOpen 5 = .ok (.aload_n 0, 1) := by decide +kernel
theorem dX8_isOpen_6 : decode cX8_isOpen 6 = .ok (.iload_n 1, 1) := by decide +kernel
theorem dX8_isOpen_7 : decode cX8_isOpen 7 = .ok (.invokevirtual 163, 3) := by decide +kernel
theorem dX8_isOpen_10 : decode cX8_isOpen 10 = .ok (.ifCond .ne 15, 3) := by decide +kernel
theorem dX8_isOpen_13 : decode cX8_isOpen 13 = .ok (.aload_n 0, 1) := by decide +kernel
theorem dX8_isOpen_14 : decode cX8_isOpen 14 = .ok (.iload_n 1, 1) := by decide +kernel
theorem dX8_isOpen_15 : decode cX8_isOpen 15 = .ok (.invokevirtual 130, 3) := by decide +kernel
theorem dX8_isOpen_18 : decode cX8_isOpen 18 = .ok (.ifCond .eq 7, 3) := by decide +kernel
theorem dX8_isOpen_21 : decode cX8_isOpen 21 = .ok (.iconst 1, 1) := by decide +kernel
theorem dX8_isOpen_22 : decode cX8_isOpen 22 = .ok (.goto 4, 3) := by decide +kernel
theorem dX8_isOpen_25 : decode cX8_isOpen 25 = .ok (.iconst 0, 1) := by decide +kernel
theorem dX8_isOpen_26 : decode cX8_isOpen 26 = .ok (.ireturn, 1) := by decide +kernel
set_option maxRecDepth 20000 in
theorem ggX8_field_X8_noLoan : GoodIn wsX8_field wsX8_noLoan := goodIn_r _ [6, 7, 8, 9, 10, 5, 11, 1, 16, 17, 18, 19, 20, 21, 22, 23, 24, 25, 26, 27, 28, 29, 30, 31, 32, 33, 34, 35, 36, 37, 38, 39, 40, 41, 42, 43, 44] (by decide +kernel) (by decide +kernel)
set_option maxRecDepth 20000 in
theorem gX8_field_X8_noLoan : GoodIn wsX8_field (wsV RX8 163 RX8 yX8_noLoan wsX8_noLoan) := goodIn_app (goodIn_of _ (by decide +kernel)) ggX8_field_X8_noLoan
set_option maxRecDepth 20000 in
theorem ggX8_field_X8_of : GoodIn wsX8_field wsX8_of := goodIn_r _ [15, 7, 16, 17, 18, 19, 20, 21, 22, 23, 24, 25, 26, 27, 28, 29, 30, 31, 32, 33, 34, 35, 36, 37, 38, 39, 40, 41, 42, 43, 44] (by decide +kernel) (by decide +kernel)
set_option maxRecDepth 20000 in
theorem gX8_field_X8_of : GoodIn wsX8_field (wsV RX8 70 RX8 yX8_of wsX8_of) := goodIn_app (goodIn_of _ (by decide +kernel)) ggX8_field_X8_of
theorem dX8_field_0 : decode cX8_field 0 = .ok (.aload_n 0, 1) := by decide +kernel
theorem dX8_field_1 : decode cX8_field 1 = .ok (.iconst 0, 1) := by decide +kernel
theorem dX8_field_2 : decode cX8_field 2 = .ok (.putfield 56, 3) := by decide +kernel
theorem dX8_field_5 : decode cX8_field 5 = .ok (.aload_n 0, 1) := by decide +kernel
theorem dX8_field_6 : decode cX8_field 6 = .ok (.iload_n 1, 1) := by decide +kernel
theorem dX8_field_7 : decode cX8_field 7 = .ok (.invokevirtual 163, 3) := by decide +kernel
theorem dX8_field_10 : decode cX8_field 10 = .ok (.ifCond .eq 7, 3) := by decide +kernel
theorem dX8_field_13 : decode cX8_field 13 = .ok (.iconst 0, 1) := by decide +kernel
theorem dX8_field_14 : decode cX8_field 14 = .ok (.goto 9, 3) := by decide +kernel
theorem dX8_field_17 : decode cX8_field 17 = .ok (.aload_n 0, 1) := by decide +kernel
theorem dX8_field_18 : decode cX8_field 18 = .ok (.iload_n 1, 1) := by decide +kernel
theorem dX8_field_19 : decode cX8_field 19 = .ok (.iload_n 2, 1) := by decide +kernel
theorem dX8_field_20 : decode cX8_field 20 = .ok (.invokevirtual 70, 3) := by decide +kernel
theorem dX8_field_23 : decode cX8_field 23 = .ok (.ireturn, 1) := by decide +kernel
set_option maxRecDepth 20000 in
theorem ggX8_principal_X8_field : GoodIn wsX8_principal wsX8_field := goodIn_r _ [5, 6, 7, 8, 9, 4, 10, 11, 12, 13, 14, 15, 16, 17, 18, 19, 20, 21, 22, 23, 24, 25, 26, 27, 28, 29, 30, 31, 32, 33, 34, 35, 36, 37, 38, 39, 40, 41, 42, 43, 44, 45, 46, 47, 48] (by decide +kernel) (by decide +kernel)
set_option maxRecDepth 20000 in
theorem gX8_principal_X8_field : GoodIn wsX8_principal (wsV RX8 312 RX8 yX8_field wsX8_field) := goodIn_app (goodIn_of _ (by decide +kernel)) ggX8_principal_X8_field
theorem dX8_principal_0 : decode cX8_principal 0 = .ok (.aload_n 0, 1) := by decide +kernel
theorem dX8_principal_1 : decode cX8_principal 1 = .ok (.iload_n 1, 1) := by decide +kernel
theorem dX8_principal_2 : decode cX8_principal 2 = .ok (.iconst 0, 1) := by decide +kernel
theorem dX8_principal_3 : decode cX8_principal 3 = .ok (.invokevirtual 312, 3) := by decide +kernel
theorem dX8_principal_6 : decode cX8_principal 6 = .ok (.ireturn, 1) := by decide +kernel
set_option maxRecDepth 20000 in
theorem ggX8_balance_X8_field : GoodIn wsX8_balance wsX8_field := goodIn_r _ [5, 6, 7, 8, 9, 4, 10, 11, 12, 13, 14, 15, 16, 17, 18, 19, 20, 21, 22, 23, 24, 25, 26, 27, 28, 29, 30, 31, 32, 33, 34, 35, 36, 37, 38, 39, 40, 41, 42, 43, 44, 45, 46, 47, 48] (by decide +kernel) (by decide +kernel)
set_option maxRecDepth 20000 in
theorem gX8_balance_X8_field : GoodIn wsX8_balance (wsV RX8 312 RX8 yX8_field wsX8_field) := goodIn_app (goodIn_of _ (by decide +kernel)) ggX8_balance_X8_field
theorem dX8_balance_0 : decode cX8_balance 0 = .ok (.aload_n 0, 1) := by decide +kernel
theorem dX8_balance_1 : decode cX8_balance 1 = .ok (.iload_n 1, 1) := by decide +kernel
theorem dX8_balance_2 : decode cX8_balance 2 = .ok (.iconst 1, 1) := by decide +kernel
theorem dX8_balance_3 : decode cX8_balance 3 = .ok (.invokevirtual 312, 3) := by decide +kernel
theorem dX8_balance_6 : decode cX8_balance 6 = .ok (.ireturn, 1) := by decide +kernel
set_option maxRecDepth 20000 in
theorem ggX8_rate_X8_field : GoodIn wsX8_rate wsX8_field := goodIn_r _ [5, 6, 7, 8, 9, 4, 10, 11, 12, 13, 14, 15, 16, 17, 18, 19, 20, 21, 22, 23, 24, 25, 26, 27, 28, 29, 30, 31, 32, 33, 34, 35, 36, 37, 38, 39, 40, 41, 42, 43, 44, 45, 46, 47, 48] (by decide +kernel) (by decide +kernel)
set_option maxRecDepth 20000 in
theorem gX8_rate_X8_field : GoodIn wsX8_rate (wsV RX8 312 RX8 yX8_field wsX8_field) := goodIn_app (goodIn_of _ (by decide +kernel)) ggX8_rate_X8_field
theorem dX8_rate_0 : decode cX8_rate 0 = .ok (.aload_n 0, 1) := by decide +kernel
theorem dX8_rate_1 : decode cX8_rate 1 = .ok (.iload_n 1, 1) := by decide +kernel
theorem dX8_rate_2 : decode cX8_rate 2 = .ok (.iconst 2, 1) := by decide +kernel
theorem dX8_rate_3 : decode cX8_rate 3 = .ok (.invokevirtual 312, 3) := by decide +kernel
theorem dX8_rate_6 : decode cX8_rate 6 = .ok (.ireturn, 1) := by decide +kernel
set_option maxRecDepth 20000 in
theorem ggX8_monthsLeft_X8_field : GoodIn wsX8_monthsLeft wsX8_field := goodIn_r _ [5, 6, 7, 8, 9, 4, 10, 11, 12, 13, 14, 15, 16, 17, 18, 19, 20, 21, 22, 23, 24, 25, 26, 27, 28, 29, 30, 31, 32, 33, 34, 35, 36, 37, 38, 39, 40, 41, 42, 43, 44, 45, 46, 47, 48] (by decide +kernel) (by decide +kernel)
set_option maxRecDepth 20000 in
theorem gX8_monthsLeft_X8_field : GoodIn wsX8_monthsLeft (wsV RX8 312 RX8 yX8_field wsX8_field) := goodIn_app (goodIn_of _ (by decide +kernel)) ggX8_monthsLeft_X8_field
theorem dX8_monthsLeft_0 : decode cX8_monthsLeft 0 = .ok (.aload_n 0, 1) := by decide +kernel
theorem dX8_monthsLeft_1 : decode cX8_monthsLeft 1 = .ok (.iload_n 1, 1) := by decide +kernel
theorem dX8_monthsLeft_2 : decode cX8_monthsLeft 2 = .ok (.iconst 3, 1) := by decide +kernel
theorem dX8_monthsLeft_3 : decode cX8_monthsLeft 3 = .ok (.invokevirtual 312, 3) := by decide +kernel
theorem dX8_monthsLeft_6 : decode cX8_monthsLeft 6 = .ok (.ireturn, 1) := by decide +kernel
set_option maxRecDepth 20000 in
theorem ggX8_installment_X8_field : GoodIn wsX8_installment wsX8_field := goodIn_r _ [5, 6, 7, 8, 9, 4, 10, 11, 12, 13, 14, 15, 16, 17, 18, 19, 20, 21, 22, 23, 24, 25, 26, 27, 28, 29, 30, 31, 32, 33, 34, 35, 36, 37, 38, 39, 40, 41, 42, 43, 44, 45, 46, 47, 48] (by decide +kernel) (by decide +kernel)
set_option maxRecDepth 20000 in
theorem gX8_installment_X8_field : GoodIn wsX8_installment (wsV RX8 312 RX8 yX8_field wsX8_field) := goodIn_app (goodIn_of _ (by decide +kernel)) ggX8_installment_X8_field
theorem dX8_installment_0 : decode cX8_installment 0 = .ok (.aload_n 0, 1) := by decide +kernel
theorem dX8_installment_1 : decode cX8_installment 1 = .ok (.iload_n 1, 1) := by decide +kernel
theorem dX8_installment_2 : decode cX8_installment 2 = .ok (.iconst 4, 1) := by decide +kernel
theorem dX8_installment_3 : decode cX8_installment 3 = .ok (.invokevirtual 312, 3) := by decide +kernel
theorem dX8_installment_6 : decode cX8_installment 6 = .ok (.ireturn, 1) := by decide +kernel
set_option maxRecDepth 20000 in
theorem ggX8_carry_X8_field : GoodIn wsX8_carry wsX8_field := goodIn_r _ [5, 6, 7, 8, 9, 4, 10, 11, 12, 13, 14, 15, 16, 17, 18, 19, 20, 21, 22, 23, 24, 25, 26, 27, 28, 29, 30, 31, 32, 33, 34, 35, 36, 37, 38, 39, 40, 41, 42, 43, 44, 45, 46, 47, 48] (by decide +kernel) (by decide +kernel)
set_option maxRecDepth 20000 in
theorem gX8_carry_X8_field : GoodIn wsX8_carry (wsV RX8 312 RX8 yX8_field wsX8_field) := goodIn_app (goodIn_of _ (by decide +kernel)) ggX8_carry_X8_field
theorem dX8_carry_0 : decode cX8_carry 0 = .ok (.aload_n 0, 1) := by decide +kernel
theorem dX8_carry_1 : decode cX8_carry 1 = .ok (.iload_n 1, 1) := by decide +kernel
theorem dX8_carry_2 : decode cX8_carry 2 = .ok (.iconst 5, 1) := by decide +kernel
theorem dX8_carry_3 : decode cX8_carry 3 = .ok (.invokevirtual 312, 3) := by decide +kernel
theorem dX8_carry_6 : decode cX8_carry 6 = .ok (.ireturn, 1) := by decide +kernel
set_option maxRecDepth 20000 in
theorem ggX8_noOpen_X8_noLoan : GoodIn wsX8_noOpen wsX8_noLoan := goodIn_r _ [6, 7, 8, 9, 10, 5, 11, 1, 20, 21, 22, 23, 24, 25, 26, 27, 28, 29, 30, 31, 32, 33, 34, 35, 36, 37, 38, 39, 40, 41, 42, 43, 44, 45, 46, 47, 48] (by decide +kernel) (by decide +kernel)
set_option maxRecDepth 20000 in
theorem gX8_noOpen_X8_noLoan : GoodIn wsX8_noOpen (wsV RX8 163 RX8 yX8_noLoan wsX8_noLoan) := goodIn_app (goodIn_of _ (by decide +kernel)) ggX8_noOpen_X8_noLoan
set_option maxRecDepth 20000 in
theorem ggX8_noOpen_X8_isRunning : GoodIn wsX8_noOpen wsX8_isRunning := goodIn_r _ [15, 16, 17, 18, 5, 19, 7, 20, 21, 22, 23, 24, 25, 26, 27, 28, 29, 30, 31, 32, 33, 34, 35, 36, 37, 38, 39, 40, 41, 42, 43, 44, 45, 46, 47, 48] (by decide +kernel) (by decide +kernel)
set_option maxRecDepth 20000 in
theorem gX8_noOpen_X8_isRunning : GoodIn wsX8_noOpen (wsV RX8 130 RX8 yX8_isRunning wsX8_isRunning) := goodIn_app (goodIn_of _ (by decide +kernel)) ggX8_noOpen_X8_isRunning
theorem dX8_noOpen_0 : decode cX8_noOpen 0 = .ok (.aload_n 0, 1) := by decide +kernel
theorem dX8_noOpen_1 : decode cX8_noOpen 1 = .ok (.iconst 0, 1) := by decide +kernel
theorem dX8_noOpen_2 : decode cX8_noOpen 2 = .ok (.putfield 56, 3) := by decide +kernel
theorem dX8_noOpen_5 : decode cX8_noOpen 5 = .ok (.aload_n 0, 1) := by decide +kernel
theorem dX8_noOpen_6 : decode cX8_noOpen 6 = .ok (.iload_n 1, 1) := by decide +kernel
theorem dX8_noOpen_7 : decode cX8_noOpen 7 = .ok (.invokevirtual 163, 3) := by decide +kernel
theorem dX8_noOpen_10 : decode cX8_noOpen 10 = .ok (.ifCond .ne 11, 3) := by decide +kernel
theorem dX8_noOpen_13 : decode cX8_noOpen 13 = .ok (.aload_n 0, 1) := by decide +kernel
theorem dX8_noOpen_14 : decode cX8_noOpen 14 = .ok (.iload_n 1, 1) := by decide +kernel
theorem dX8_noOpen_15 : decode cX8_noOpen 15 = .ok (.invokevirtual 130, 3) := by decide +kernel
theorem dX8_noOpen_18 : decode cX8_noOpen 18 = .ok (.ifCond .ne 7, 3) := by decide +kernel
theorem dX8_noOpen_21 : decode cX8_noOpen 21 = .ok (.iconst 1, 1) := by decide +kernel
theorem dX8_noOpen_22 : decode cX8_noOpen 22 = .ok (.goto 4, 3) := by decide +kernel
theorem dX8_noOpen_25 : decode cX8_noOpen 25 = .ok (.iconst 0, 1) := by decide +kernel
theorem dX8_noOpen_26 : decode cX8_noOpen 26 = .ok (.ireturn, 1) := by decide +kernel
set_option maxRecDepth 20000 in
theorem ggX8_interestDue_X8_noOpen : GoodIn wsX8_interestDue wsX8_noOpen := goodIn_r _ [6, 7, 8, 9, 10, 5, 11, 12, 13, 14, 15, 16, 17, 18, 19, 20, 21, 22, 23, 24, 47, 48, 49, 50, 51, 52, 53, 54, 55, 56, 57, 58, 59, 60, 61, 62, 63, 64, 65, 66, 67, 68, 69, 70, 71, 72, 73, 74, 75] (by decide +kernel) (by decide +kernel)
set_option maxRecDepth 20000 in
theorem gX8_interestDue_X8_noOpen : GoodIn wsX8_interestDue (wsV RX8 315 RX8 yX8_noOpen wsX8_noOpen) := goodIn_app (goodIn_of _ (by decide +kernel)) ggX8_interestDue_X8_noOpen
set_option maxRecDepth 20000 in
theorem ggX8_interestDue_X8_nextMonth : GoodIn wsX8_interestDue wsX8_nextMonth := goodIn_r _ [28, 29, 30, 31, 5, 32, 21, 22, 23, 24, 12, 33, 34, 35, 36, 37, 38, 39, 40, 41, 1, 42, 43, 44, 45, 46, 47, 48, 49, 50, 51, 52, 53, 54, 55, 56, 57, 58, 59, 60, 61, 62, 63, 64, 65, 66, 67, 68, 69, 70, 71, 72, 73, 74, 75] (by decide +kernel) (by decide +kernel)
set_option maxRecDepth 20000 in
theorem gX8_interestDue_X8_nextMonth : GoodIn wsX8_interestDue (wsV RX8 134 RX8 yX8_nextMonth wsX8_nextMonth) := goodIn_app (goodIn_of _ (by decide +kernel)) ggX8_interestDue_X8_nextMonth
theorem dX8_interestDue_0 : decode cX8_interestDue 0 = .ok (.aload_n 0, 1) := by decide +kernel
theorem dX8_interestDue_1 : decode cX8_interestDue 1 = .ok (.iload_n 1, 1) := by decide +kernel
theorem dX8_interestDue_2 : decode cX8_interestDue 2 = .ok (.invokevirtual 315, 3) := by decide +kernel
theorem dX8_interestDue_5 : decode cX8_interestDue 5 = .ok (.ifCond .eq 5, 3) := by decide +kernel
theorem dX8_interestDue_8 : decode cX8_interestDue 8 = .ok (.iconst 0, 1) := by decide +kernel
theorem dX8_interestDue_9 : decode cX8_interestDue 9 = .ok (.ireturn, 1) := by decide +kernel
theorem dX8_interestDue_10 : decode cX8_interestDue 10 = .ok (.aload_n 0, 1) := by decide +kernel
theorem dX8_interestDue_11 : decode cX8_interestDue 11 = .ok (.iload_n 1, 1) := by decide +kernel
theorem dX8_interestDue_12 : decode cX8_interestDue 12 = .ok (.invokevirtual 134, 3) := by decide +kernel
theorem dX8_interestDue_15 : decode cX8_interestDue 15 = .ok (.aload_n 0, 1) := by decide +kernel
theorem dX8_interestDue_16 : decode cX8_interestDue 16 = .ok (.getfield 94, 3) := by decide +kernel
theorem dX8_interestDue_19 : decode cX8_interestDue 19 = .ok (.l2i, 1) := by decide +kernel
theorem dX8_interestDue_20 : decode cX8_interestDue 20 = .ok (.ireturn, 1) := by decide +kernel
set_option maxRecDepth 20000 in
theorem ggX8_amountDue_X8_noOpen : GoodIn wsX8_amountDue wsX8_noOpen := goodIn_r _ [6, 7, 8, 9, 10, 5, 11, 12, 13, 14, 15, 16, 17, 18, 19, 20, 21, 22, 23, 24, 47, 48, 49, 50, 51, 52, 53, 54, 55, 56, 57, 58, 59, 60, 61, 62, 63, 64, 65, 66, 67, 68, 69, 70, 71, 72, 73, 74, 75] (by decide +kernel) (by decide +kernel)
set_option maxRecDepth 20000 in
theorem gX8_amountDue_X8_noOpen : GoodIn wsX8_amountDue (wsV RX8 315 RX8 yX8_noOpen wsX8_noOpen) := goodIn_app (goodIn_of _ (by decide +kernel)) ggX8_amountDue_X8_noOpen
set_option maxRecDepth 20000 in
theorem ggX8_amountDue_X8_nextMonth : GoodIn wsX8_amountDue wsX8_nextMonth := goodIn_r _ [28, 29, 30, 31, 5, 32, 21, 22, 23, 24, 12, 33, 34, 35, 36, 37, 38, 39, 40, 1, 41, 42, 43, 44, 45, 46, 47, 48, 49, 50, 51, 52, 53, 54, 55, 56, 57, 58, 59, 60, 61, 62, 63, 64, 65, 66, 67, 68, 69, 70, 71, 72, 73, 74, 75] (by decide +kernel) (by decide +kernel)
set_option maxRecDepth 20000 in
theorem gX8_amountDue_X8_nextMonth : GoodIn wsX8_amountDue (wsV RX8 134 RX8 yX8_nextMonth wsX8_nextMonth) := goodIn_app (goodIn_of _ (by decide +kernel)) ggX8_amountDue_X8_nextMonth
theorem dX8_amountDue_0 : decode cX8_amountDue 0 = .ok (.aload_n 0, 1) := by decide +kernel
theorem dX8_amountDue_1 : decode cX8_amountDue 1 = .ok (.iload_n 1, 1) := by decide +kernel
theorem dX8_amountDue_2 : decode cX8_amountDue 2 = .ok (.invokevirtual 315, 3) := by decide +kernel
theorem dX8_amountDue_5 : decode cX8_amountDue 5 = .ok (.ifCond .eq 5, 3) := by decide +kernel
theorem dX8_amountDue_8 : decode cX8_amountDue 8 = .ok (.iconst 0, 1) := by decide +kernel
theorem dX8_amountDue_9 : decode cX8_amountDue 9 = .ok (.ireturn, 1) := by decide +kernel
theorem dX8_amountDue_10 : decode cX8_amountDue 10 = .ok (.aload_n 0, 1) := by decide +kernel
theorem dX8_amountDue_11 : decode cX8_amountDue 11 = .ok (.iload_n 1, 1) := by decide +kernel
theorem dX8_amountDue_12 : decode cX8_amountDue 12 = .ok (.invokevirtual 134, 3) := by decide +kernel
theorem dX8_amountDue_15 : decode cX8_amountDue 15 = .ok (.aload_n 0, 1) := by decide +kernel
theorem dX8_amountDue_16 : decode cX8_amountDue 16 = .ok (.getfield 91, 3) := by decide +kernel
theorem dX8_amountDue_19 : decode cX8_amountDue 19 = .ok (.l2i, 1) := by decide +kernel
theorem dX8_amountDue_20 : decode cX8_amountDue 20 = .ok (.ireturn, 1) := by decide +kernel
set_option maxRecDepth 20000 in
theorem ggX8_interestSoFar_X8_field : GoodIn wsX8_interestSoFar wsX8_field := goodIn_r _ [5, 6, 7, 8, 9, 4, 10, 11, 12, 13, 14, 15, 16, 17, 18, 19, 20, 21, 22, 23, 24, 25, 26, 27, 28, 29, 30, 31, 32, 33, 34, 35, 36, 37, 38, 39, 40, 41, 42, 43, 44, 45, 46, 47, 48] (by decide +kernel) (by decide +kernel)
set_option maxRecDepth 20000 in
theorem gX8_interestSoFar_X8_field : GoodIn wsX8_interestSoFar (wsV RX8 312 RX8 yX8_field wsX8_field) := goodIn_app (goodIn_of _ (by decide +kernel)) ggX8_interestSoFar_X8_field
theorem dX8_interestSoFar_0 : decode cX8_interestSoFar 0 = .ok (.aload_n 0, 1) := by decide +kernel
theorem dX8_interestSoFar_1 : decode cX8_interestSoFar 1 = .ok (.iload_n 1, 1) := by decide +kernel
theorem dX8_interestSoFar_2 : decode cX8_interestSoFar 2 = .ok (.bipush 6, 2) := by decide +kernel
theorem dX8_interestSoFar_4 : decode cX8_interestSoFar 4 = .ok (.invokevirtual 312, 3) := by decide +kernel
theorem dX8_interestSoFar_7 : decode cX8_interestSoFar 7 = .ok (.ireturn, 1) := by decide +kernel
set_option maxRecDepth 20000 in
theorem ggX8_paidSoFar_X8_field : GoodIn wsX8_paidSoFar wsX8_field := goodIn_r _ [5, 6, 7, 8, 9, 4, 10, 11, 12, 13, 14, 15, 16, 17, 18, 19, 20, 21, 22, 23, 24, 25, 26, 27, 28, 29, 30, 31, 32, 33, 34, 35, 36, 37, 38, 39, 40, 41, 42, 43, 44, 45, 46, 47, 48] (by decide +kernel) (by decide +kernel)
set_option maxRecDepth 20000 in
theorem gX8_paidSoFar_X8_field : GoodIn wsX8_paidSoFar (wsV RX8 312 RX8 yX8_field wsX8_field) := goodIn_app (goodIn_of _ (by decide +kernel)) ggX8_paidSoFar_X8_field
theorem dX8_paidSoFar_0 : decode cX8_paidSoFar 0 = .ok (.aload_n 0, 1) := by decide +kernel
theorem dX8_paidSoFar_1 : decode cX8_paidSoFar 1 = .ok (.iload_n 1, 1) := by decide +kernel
theorem dX8_paidSoFar_2 : decode cX8_paidSoFar 2 = .ok (.bipush 7, 2) := by decide +kernel
theorem dX8_paidSoFar_4 : decode cX8_paidSoFar 4 = .ok (.invokevirtual 312, 3) := by decide +kernel
theorem dX8_paidSoFar_7 : decode cX8_paidSoFar 7 = .ok (.ireturn, 1) := by decide +kernel
set_option maxRecDepth 20000 in
theorem ggX8_paidMonths_X8_field : GoodIn wsX8_paidMonths wsX8_field := goodIn_r _ [5, 6, 7, 8, 9, 4, 10, 11, 12, 13, 14, 15, 16, 17, 18, 19, 20, 21, 22, 23, 24, 25, 26, 27, 28, 29, 30, 31, 32, 33, 34, 35, 36, 37, 38, 39, 40, 41, 42, 43, 44, 45, 46, 47, 48] (by decide +kernel) (by decide +kernel)
set_option maxRecDepth 20000 in
theorem gX8_paidMonths_X8_field : GoodIn wsX8_paidMonths (wsV RX8 312 RX8 yX8_field wsX8_field) := goodIn_app (goodIn_of _ (by decide +kernel)) ggX8_paidMonths_X8_field
theorem dX8_paidMonths_0 : decode cX8_paidMonths 0 = .ok (.aload_n 0, 1) := by decide +kernel
theorem dX8_paidMonths_1 : decode cX8_paidMonths 1 = .ok (.iload_n 1, 1) := by decide +kernel
theorem dX8_paidMonths_2 : decode cX8_paidMonths 2 = .ok (.bipush 8, 2) := by decide +kernel
theorem dX8_paidMonths_4 : decode cX8_paidMonths 4 = .ok (.invokevirtual 312, 3) := by decide +kernel
theorem dX8_paidMonths_7 : decode cX8_paidMonths 7 = .ok (.ireturn, 1) := by decide +kernel
set_option maxRecDepth 20000 in
theorem ggX8_skippedMonths_X8_field : GoodIn wsX8_skippedMonths wsX8_field := goodIn_r _ [5, 6, 7, 8, 9, 4, 10, 11, 12, 13, 14, 15, 16, 17, 18, 19, 20, 21, 22, 23, 24, 25, 26, 27, 28, 29, 30, 31, 32, 33, 34, 35, 36, 37, 38, 39, 40, 41, 42, 43, 44, 45, 46, 47, 48] (by decide +kernel) (by decide +kernel)
set_option maxRecDepth 20000 in
theorem gX8_skippedMonths_X8_field : GoodIn wsX8_skippedMonths (wsV RX8 312 RX8 yX8_field wsX8_field) := goodIn_app (goodIn_of _ (by decide +kernel)) ggX8_skippedMonths_X8_field
theorem dX8_skippedMonths_0 : decode cX8_skippedMonths 0 = .ok (.aload_n 0, 1) := by decide +kernel
theorem dX8_skippedMonths_1 : decode cX8_skippedMonths 1 = .ok (.iload_n 1, 1) := by decide +kernel
theorem dX8_skippedMonths_2 : decode cX8_skippedMonths 2 = .ok (.bipush 9, 2) := by decide +kernel
theorem dX8_skippedMonths_4 : decode cX8_skippedMonths 4 = .ok (.invokevirtual 312, 3) := by decide +kernel
theorem dX8_skippedMonths_7 : decode cX8_skippedMonths 7 = .ok (.ireturn, 1) := by decide +kernel
theorem dX8_entryCount_0 : decode cX8_entryCount 0 = .ok (.aload_n 0, 1) := by decide +kernel
theorem dX8_entryCount_1 : decode cX8_entryCount 1 = .ok (.iconst 0, 1) := by decide +kernel
theorem dX8_entryCount_2 : decode cX8_entryCount 2 = .ok (.putfield 56, 3) := by decide +kernel
theorem dX8_entryCount_5 : decode cX8_entryCount 5 = .ok (.aload_n 0, 1) := by decide +kernel
theorem dX8_entryCount_6 : decode cX8_entryCount 6 = .ok (.getfield 9, 3) := by decide +kernel
theorem dX8_entryCount_9 : decode cX8_entryCount 9 = .ok (.iconst 1, 1) := by decide +kernel
theorem dX8_entryCount_10 : decode cX8_entryCount 10 = .ok (.iaload, 1) := by decide +kernel
theorem dX8_entryCount_11 : decode cX8_entryCount 11 = .ok (.ireturn, 1) := by decide +kernel
theorem dX8_entry_0 : decode cX8_entry 0 = .ok (.aload_n 0, 1) := by decide +kernel
theorem dX8_entry_1 : decode cX8_entry 1 = .ok (.iconst 0, 1) := by decide +kernel
theorem dX8_entry_2 : decode cX8_entry 2 = .ok (.putfield 56, 3) := by decide +kernel
theorem dX8_entry_5 : decode cX8_entry 5 = .ok (.iload_n 1, 1) := by decide +kernel
theorem dX8_entry_6 : decode cX8_entry 6 = .ok (.ifCond .lt 28, 3) := by decide +kernel
theorem dX8_entry_9 : decode cX8_entry 9 = .ok (.iload_n 1, 1) := by decide +kernel
theorem dX8_entry_10 : decode cX8_entry 10 = .ok (.aload_n 0, 1) := by decide +kernel
theorem dX8_entry_11 : decode cX8_entry 11 = .ok (.getfield 9, 3) := by decide +kernel
theorem dX8_entry_14 : decode cX8_entry 14 = .ok (.iconst 1, 1) := by decide +kernel
theorem dX8_entry_15 : decode cX8_entry 15 = .ok (.iaload, 1) := by decide +kernel
theorem dX8_entry_16 : decode cX8_entry 16 = .ok (.if_icmp .ge 18, 3) := by decide +kernel
theorem dX8_entry_19 : decode cX8_entry 19 = .ok (.aload_n 0, 1) := by decide +kernel
theorem dX8_entry_20 : decode cX8_entry 20 = .ok (.getfield 9, 3) := by decide +kernel
theorem dX8_entry_23 : decode cX8_entry 23 = .ok (.iconst 2, 1) := by decide +kernel
theorem dX8_entry_24 : decode cX8_entry 24 = .ok (.iconst 3, 1) := by decide +kernel
theorem dX8_entry_25 : decode cX8_entry 25 = .ok (.iload_n 1, 1) := by decide +kernel
theorem dX8_entry_26 : decode cX8_entry 26 = .ok (.imul, 1) := by decide +kernel
theorem dX8_entry_27 : decode cX8_entry 27 = .ok (.iadd, 1) := by decide +kernel
theorem dX8_entry_28 : decode cX8_entry 28 = .ok (.iload_n 2, 1) := by decide +kernel
theorem dX8_entry_29 : decode cX8_entry 29 = .ok (.iadd, 1) := by decide +kernel
theorem dX8_entry_30 : decode cX8_entry 30 = .ok (.iaload, 1) := by decide +kernel
theorem dX8_entry_31 : decode cX8_entry 31 = .ok (.goto 4, 3) := by decide +kernel
theorem dX8_entry_34 : decode cX8_entry 34 = .ok (.iconst (-1), 1) := by decide +kernel
theorem dX8_entry_35 : decode cX8_entry 35 = .ok (.ireturn, 1) := by decide +kernel
set_option maxRecDepth 20000 in
theorem ggX8_entryLoan_X8_entry : GoodIn wsX8_entryLoan wsX8_entry := goodIn_r _ [5, 6, 7, 8, 9, 10, 11, 12, 13, 14, 15, 16, 17, 18, 19, 20, 21, 22, 23, 24, 25, 26, 27, 28, 29, 30, 31, 32, 33, 34, 35, 36] (by decide +kernel) (by decide +kernel)
set_option maxRecDepth 20000 in
theorem gX8_entryLoan_X8_entry : GoodIn wsX8_entryLoan (wsV RX8 318 RX8 yX8_entry wsX8_entry) := goodIn_app (goodIn_of _ (by decide +kernel)) ggX8_entryLoan_X8_entry
theorem dX8_entryLoan_0 : decode cX8_entryLoan 0 = .ok (.aload_n 0, 1) := by decide +kernel
theorem dX8_entryLoan_1 : decode cX8_entryLoan 1 = .ok (.iload_n 1, 1) := by decide +kernel
theorem dX8_entryLoan_2 : decode cX8_entryLoan 2 = .ok (.iconst 0, 1) := by decide +kernel
theorem dX8_entryLoan_3 : decode cX8_entryLoan 3 = .ok (.invokevirtual 318, 3) := by decide +kernel
theorem dX8_entryLoan_6 : decode cX8_entryLoan 6 = .ok (.ireturn, 1) := by decide +kernel
set_option maxRecDepth 20000 in
theorem ggX8_entryAmount_X8_entry : GoodIn wsX8_entryAmount wsX8_entry := goodIn_r _ [5, 6, 7, 8, 9, 10, 11, 12, 13, 14, 15, 16, 17, 18, 19, 20, 21, 22, 23, 24, 25, 26, 27, 28, 29, 30, 31, 32, 33, 34, 35, 36] (by decide +kernel) (by decide +kernel)
set_option maxRecDepth 20000 in
theorem gX8_entryAmount_X8_entry : GoodIn wsX8_entryAmount (wsV RX8 318 RX8 yX8_entry wsX8_entry) := goodIn_app (goodIn_of _ (by decide +kernel)) ggX8_entryAmount_X8_entry
theorem dX8_entryAmount_0 : decode cX8_entryAmount 0 = .ok (.aload_n 0, 1) := by decide +kernel
theorem dX8_entryAmount_1 : decode cX8_entryAmount 1 = .ok (.iload_n 1, 1) := by decide +kernel
theorem dX8_entryAmount_2 : decode cX8_entryAmount 2 = .ok (.iconst 1, 1) := by decide +kernel
theorem dX8_entryAmount_3 : decode cX8_entryAmount 3 = .ok (.invokevirtual 318, 3) := by decide +kernel
theorem dX8_entryAmount_6 : decode cX8_entryAmount 6 = .ok (.ireturn, 1) := by decide +kernel
set_option maxRecDepth 20000 in
theorem ggX8_entryInterest_X8_entry : GoodIn wsX8_entryInterest wsX8_entry := goodIn_r _ [5, 6, 7, 8, 9, 10, 11, 12, 13, 14, 15, 16, 17, 18, 19, 20, 21, 22, 23, 24, 25, 26, 27, 28, 29, 30, 31, 32, 33, 34, 35, 36] (by decide +kernel) (by decide +kernel)
set_option maxRecDepth 20000 in
theorem gX8_entryInterest_X8_entry : GoodIn wsX8_entryInterest (wsV RX8 318 RX8 yX8_entry wsX8_entry) := goodIn_app (goodIn_of _ (by decide +kernel)) ggX8_entryInterest_X8_entry
theorem dX8_entryInterest_0 : decode cX8_entryInterest 0 = .ok (.aload_n 0, 1) := by decide +kernel
theorem dX8_entryInterest_1 : decode cX8_entryInterest 1 = .ok (.iload_n 1, 1) := by decide +kernel
theorem dX8_entryInterest_2 : decode cX8_entryInterest 2 = .ok (.iconst 2, 1) := by decide +kernel
theorem dX8_entryInterest_3 : decode cX8_entryInterest 3 = .ok (.invokevirtual 318, 3) := by decide +kernel
theorem dX8_entryInterest_6 : decode cX8_entryInterest 6 = .ok (.ireturn, 1) := by decide +kernel
set_option maxRecDepth 20000 in
theorem ggX8_balanceAfter_X8_noLoan : GoodIn wsX8_balanceAfter wsX8_noLoan := goodIn_r _ [7, 8, 9, 10, 11, 6, 12, 1, 35, 36, 37, 38, 39, 40, 41, 42, 43, 44, 45, 46, 47, 48, 49, 50, 51, 52, 53, 54, 55, 56, 57, 58, 59, 60, 61, 62, 63] (by decide +kernel) (by decide +kernel)
set_option maxRecDepth 20000 in
theorem gX8_balanceAfter_X8_noLoan : GoodIn wsX8_balanceAfter (wsV RX8 163 RX8 yX8_noLoan wsX8_noLoan) := goodIn_app (goodIn_of _ (by decide +kernel)) ggX8_balanceAfter_X8_noLoan
set_option maxRecDepth 20000 in
theorem ggX8_balanceAfter_X8_outside : GoodIn wsX8_balanceAfter wsX8_outside := goodIn_r _ [12, 1, 35, 36, 37, 38, 39, 40, 41, 42, 43, 44, 45, 46, 47, 48, 49, 50, 51, 52, 53, 54, 55, 56, 57, 58, 59, 60, 61, 62, 63] (by decide +kernel) (by decide +kernel)
set_option maxRecDepth 20000 in
theorem gX8_balanceAfter_X8_outside : GoodIn wsX8_balanceAfter (wsV RX8 66 RX8 yX8_outside wsX8_outside) := goodIn_app (goodIn_of _ (by decide +kernel)) ggX8_balanceAfter_X8_outside
set_option maxRecDepth 20000 in
theorem ggX8_balanceAfter_X8_beginWith : GoodIn wsX8_balanceAfter wsX8_beginWith := goodIn_r _ [16, 17, 18, 19, 6, 20, 8, 21, 22, 23, 24, 2, 25, 26, 27, 28, 29, 35, 36, 37, 38, 39, 40, 41, 42, 43, 44, 45, 46, 47, 48, 49, 50, 51, 52, 53, 54, 55, 56, 57, 58, 59, 60, 61, 62, 63] (by decide +kernel) (by decide +kernel)
set_option maxRecDepth 20000 in
theorem gX8_balanceAfter_X8_beginWith : GoodIn wsX8_balanceAfter (wsV RX8 107 RX8 yX8_beginWith wsX8_beginWith) := goodIn_app (goodIn_of _ (by decide +kernel)) ggX8_balanceAfter_X8_beginWith
set_option maxRecDepth 20000 in
theorem ggX8_balanceAfter_X8_of : GoodIn wsX8_balanceAfter wsX8_of := goodIn_r _ [20, 8, 35, 36, 37, 38, 39, 40, 41, 42, 43, 44, 45, 46, 47, 48, 49, 50, 51, 52, 53, 54, 55, 56, 57, 58, 59, 60, 61, 62, 63] (by decide +kernel) (by decide +kernel)
set_option maxRecDepth 20000 in
theorem gX8_balanceAfter_X8_of : GoodIn wsX8_balanceAfter (wsV RX8 70 RX8 yX8_of wsX8_of) := goodIn_app (goodIn_of _ (by decide +kernel)) ggX8_balanceAfter_X8_of
set_option maxRecDepth 20000 in
theorem ggX8_balanceAfter_X8_step : GoodIn wsX8_balanceAfter wsX8_step := goodIn_r _ [33, 2, 25, 34, 29, 28, 27, 26, 35, 36, 37, 38, 39, 40, 41, 42, 43, 44, 45, 46, 47, 48, 49, 50, 51, 52, 53, 54, 55, 56, 57, 58, 59, 60, 61, 62, 63] (by decide +kernel) (by decide +kernel)
set_option maxRecDepth 20000 in
theorem gX8_balanceAfter_X8_step : GoodIn wsX8_balanceAfter (wsV RX8 103 RX8 yX8_step wsX8_step) := goodIn_app (goodIn_of _ (by decide +kernel)) ggX8_balanceAfter_X8_step
theorem dX8_balanceAfter_0 : decode cX8_balanceAfter 0 = .ok (.aload_n 0, 1) := by decide +kernel
theorem dX8_balanceAfter_1 : decode cX8_balanceAfter 1 = .ok (.iconst 0, 1) := by decide +kernel
theorem dX8_balanceAfter_2 : decode cX8_balanceAfter 2 = .ok (.putfield 56, 3) := by decide +kernel
theorem dX8_balanceAfter_5 : decode cX8_balanceAfter 5 = .ok (.aload_n 0, 1) := by decide +kernel
theorem dX8_balanceAfter_6 : decode cX8_balanceAfter 6 = .ok (.iload_n 1, 1) := by decide +kernel
theorem dX8_balanceAfter_7 : decode cX8_balanceAfter 7 = .ok (.invokevirtual 163, 3) := by decide +kernel
theorem dX8_balanceAfter_10 : decode cX8_balanceAfter 10 = .ok (.ifCond .ne 15, 3) := by decide +kernel
theorem dX8_balanceAfter_13 : decode cX8_balanceAfter 13 = .ok (.aload_n 0, 1) := by decide +kernel
theorem dX8_balanceAfter_14 : decode cX8_balanceAfter 14 = .ok (.iload_n 2, 1) := by decide +kernel
theorem dX8_balanceAfter_15 : decode cX8_balanceAfter 15 = .ok (.iconst 0, 1) := by decide +kernel
theorem dX8_balanceAfter_16 : decode cX8_balanceAfter 16 = .ok (.bipush 120, 2) := by decide +kernel
theorem dX8_balanceAfter_18 : decode cX8_balanceAfter 18 = .ok (.iconst 2, 1) := by decide +kernel
theorem dX8_balanceAfter_19 : decode cX8_balanceAfter 19 = .ok (.invokevirtual 66, 3) := by decide +kernel
theorem dX8_balanceAfter_22 : decode cX8_balanceAfter 22 = .ok (.ifCond .eq 5, 3) := by decide +kernel
theorem dX8_balanceAfter_25 : decode cX8_balanceAfter 25 = .ok (.iconst 0, 1) := by decide +kernel
theorem dX8_balanceAfter_26 : decode cX8_balanceAfter 26 = .ok (.ireturn, 1) := by decide +kernel
theorem dX8_balanceAfter_27 : decode cX8_balanceAfter 27 = .ok (.aload_n 0, 1) := by decide +kernel
theorem dX8_balanceAfter_28 : decode cX8_balanceAfter 28 = .ok (.iload_n 1, 1) := by decide +kernel
theorem dX8_balanceAfter_29 : decode cX8_balanceAfter 29 = .ok (.invokevirtual 107, 3) := by decide +kernel
theorem dX8_balanceAfter_32 : decode cX8_balanceAfter 32 = .ok (.aload_n 0, 1) := by decide +kernel
theorem dX8_balanceAfter_33 : decode cX8_balanceAfter 33 = .ok (.iload_n 1, 1) := by decide +kernel
theorem dX8_balanceAfter_34 : decode cX8_balanceAfter 34 = .ok (.iconst 3, 1) := by decide +kernel
theorem dX8_balanceAfter_35 : decode cX8_balanceAfter 35 = .ok (.invokevirtual 70, 3) := by decide +kernel
theorem dX8_balanceAfter_38 : decode cX8_balanceAfter 38 = .ok (.istore_n 3, 1) := by decide +kernel
theorem dX8_balanceAfter_39 : decode cX8_balanceAfter 39 = .ok (.iconst 0, 1) := by decide +kernel
theorem dX8_balanceAfter_40 : decode cX8_balanceAfter 40 = .ok (.istore 4, 2) := by decide +kernel
theorem dX8_balanceAfter_42 : decode cX8_balanceAfter 42 = .ok (.iload 4, 2) := by decide +kernel
theorem dX8_balanceAfter_44 : decode cX8_balanceAfter 44 = .ok (.iload_n 2, 1) := by decide +kernel
theorem dX8_balanceAfter_45 : decode cX8_balanceAfter 45 = .ok (.if_icmp .ge 39, 3) := by decide +kernel
theorem dX8_balanceAfter_48 : decode cX8_balanceAfter 48 = .ok (.aload_n 0, 1) := by decide +kernel
theorem dX8_balanceAfter_49 : decode cX8_balanceAfter 49 = .ok (.getfield 78, 3) := by decide +kernel
theorem dX8_balanceAfter_52 : decode cX8_balanceAfter 52 = .ok (.lconst 0, 1) := by decide +kernel
theorem dX8_balanceAfter_53 : decode cX8_balanceAfter 53 = .ok (.lcmp, 1) := by decide +kernel
theorem dX8_balanceAfter_54 : decode cX8_balanceAfter 54 = .ok (.ifCond .le 30, 3) := by decide +kernel
theorem dX8_balanceAfter_57 : decode cX8_balanceAfter 57 = .ok (.aload_n 0, 1) := by decide +kernel
theorem dX8_balanceAfter_58 : decode cX8_balanceAfter 58 = .ok (.aload_n 0, 1) := by decide +kernel
theorem dX8_balanceAfter_59 : decode cX8_balanceAfter 59 = .ok (.iload_n 1, 1) := by decide +kernel
theorem dX8_balanceAfter_60 : decode cX8_balanceAfter 60 = .ok (.iconst 2, 1) := by decide +kernel
theorem dX8_balanceAfter_61 : decode cX8_balanceAfter 61 = .ok (.invokevirtual 70, 3) := by decide +kernel
theorem dX8_balanceAfter_64 : decode cX8_balanceAfter 64 = .ok (.aload_n 0, 1) := by decide +kernel
theorem dX8_balanceAfter_65 : decode cX8_balanceAfter 65 = .ok (.iload_n 1, 1) := by decide +kernel
theorem dX8_balanceAfter_66 : decode cX8_balanceAfter 66 = .ok (.iconst 4, 1) := by decide +kernel
theorem dX8_balanceAfter_67 : decode cX8_balanceAfter 67 = .ok (.invokevirtual 70, 3) := by decide +kernel
theorem dX8_balanceAfter_70 : decode cX8_balanceAfter 70 = .ok (.i2l, 1) := by decide +kernel
theorem dX8_balanceAfter_71 : decode cX8_balanceAfter 71 = .ok (.iload_n 3, 1) := by decide +kernel
theorem dX8_balanceAfter_72 : decode cX8_balanceAfter 72 = .ok (.iload 4, 2) := by decide +kernel
theorem dX8_balanceAfter_74 : decode cX8_balanceAfter 74 = .ok (.isub, 1) := by decide +kernel
theorem dX8_balanceAfter_75 : decode cX8_balanceAfter 75 = .ok (.invokevirtual 103, 3) := by decide +kernel
theorem dX8_balanceAfter_78 : decode cX8_balanceAfter 78 = .ok (.iinc 4 1, 3) := by decide +kernel
theorem dX8_balanceAfter_81 : decode cX8_balanceAfter 81 = .ok (.goto (-39), 3) := by decide +kernel
theorem dX8_balanceAfter_84 : decode cX8_balanceAfter 84 = .ok (.aload_n 0, 1) := by decide +kernel
theorem dX8_balanceAfter_85 : decode cX8_balanceAfter 85 = .ok (.getfield 78, 3) := by decide +kernel
theorem dX8_balanceAfter_88 : decode cX8_balanceAfter 88 = .ok (.l2i, 1) := by decide +kernel
theorem dX8_balanceAfter_89 : decode cX8_balanceAfter 89 = .ok (.ireturn, 1) := by decide +kernel
set_option maxRecDepth 20000 in
theorem ggX8_interestAhead_X8_noOpen : GoodIn wsX8_interestAhead wsX8_noOpen := goodIn_r _ [5, 6, 7, 8, 9, 4, 10, 11, 12, 13, 14, 15, 16, 17, 18, 19, 20, 21, 22, 23, 55, 56, 57, 58, 59, 60, 61, 62, 63, 64, 65, 66, 67, 68, 69, 70, 71, 72, 73, 74, 75, 76, 77, 78, 79, 80, 81, 82, 83] (by decide +kernel) (by decide +kernel)
set_option maxRecDepth 20000 in
theorem gX8_interestAhead_X8_noOpen : GoodIn wsX8_interestAhead (wsV RX8 315 RX8 yX8_noOpen wsX8_noOpen) := goodIn_app (goodIn_of _ (by decide +kernel)) ggX8_interestAhead_X8_noOpen
set_option maxRecDepth 20000 in
theorem ggX8_interestAhead_X8_costAhead : GoodIn wsX8_interestAhead wsX8_costAhead := goodIn_r _ [27, 28, 29, 30, 31, 4, 32, 33, 34, 35, 36, 20, 21, 22, 23, 11, 37, 38, 39, 40, 41, 42, 43, 44, 45, 46, 47, 48, 49, 50, 51, 52, 53, 54, 55, 56, 57, 58, 59, 60, 61, 62, 63, 64, 65, 66, 67, 68, 69, 70, 71, 72, 73, 74, 75, 76, 77, 78, 79, 80, 81, 82, 83] (by decide +kernel) (by decide +kernel)
set_option maxRecDepth 20000 in
theorem gX8_interestAhead_X8_costAhead : GoodIn wsX8_interestAhead (wsV RX8 321 RX8 yX8_costAhead wsX8_costAhead) := goodIn_app (goodIn_of _ (by decide +kernel)) ggX8_interestAhead_X8_costAhead
theorem dX8_interestAhead_0 : decode cX8_interestAhead 0 = .ok (.aload_n 0, 1) := by decide +kernel
theorem dX8_interestAhead_1 : decode cX8_interestAhead 1 = .ok (.iload_n 1, 1) := by decide +kernel
theorem dX8_interestAhead_2 : decode cX8_interestAhead 2 = .ok (.invokevirtual 315, 3) := by decide +kernel
theorem dX8_interestAhead_5 : decode cX8_interestAhead 5 = .ok (.ifCond .eq 7, 3) := by decide +kernel
theorem dX8_interestAhead_8 : decode cX8_interestAhead 8 = .ok (.iconst 0, 1) := by decide +kernel
theorem dX8_interestAhead_9 : decode cX8_interestAhead 9 = .ok (.goto 8, 3) := by decide +kernel
theorem dX8_interestAhead_12 : decode cX8_interestAhead 12 = .ok (.aload_n 0, 1) := by decide +kernel
theorem dX8_interestAhead_13 : decode cX8_interestAhead 13 = .ok (.iload_n 1, 1) := by decide +kernel
theorem dX8_interestAhead_14 : decode cX8_interestAhead 14 = .ok (.invokevirtual 321, 3) := by decide +kernel
theorem dX8_interestAhead_17 : decode cX8_interestAhead 17 = .ok (.ireturn, 1) := by decide +kernel
set_option maxRecDepth 20000 in
theorem ggX8_lastDue_X8_noOpen : GoodIn wsX8_lastDue wsX8_noOpen := goodIn_r _ [5, 6, 7, 8, 9, 4, 10, 11, 12, 13, 14, 15, 16, 17, 18, 19, 20, 21, 22, 23, 51, 52, 53, 54, 55, 56, 57, 58, 59, 60, 61, 62, 63, 64, 65, 66, 67, 68, 69, 70, 71, 72, 73, 74, 75, 76, 77, 78, 79] (by decide +kernel) (by decide +kernel)
set_option maxRecDepth 20000 in
theorem gX8_lastDue_X8_noOpen : GoodIn wsX8_lastDue (wsV RX8 315 RX8 yX8_noOpen wsX8_noOpen) := goodIn_app (goodIn_of _ (by decide +kernel)) ggX8_lastDue_X8_noOpen
set_option maxRecDepth 20000 in
theorem ggX8_lastDue_X8_ahead : GoodIn wsX8_lastDue wsX8_ahead := goodIn_r _ [27, 28, 29, 30, 4, 31, 20, 21, 22, 23, 11, 32, 33, 34, 35, 36, 37, 38, 39, 40, 41, 42, 43, 44, 45, 46, 47, 48, 49, 50, 51, 52, 53, 54, 55, 56, 57, 58, 59, 60, 61, 62, 63, 64, 65, 66, 67, 68, 69, 70, 71, 72, 73, 74, 75, 76, 77, 78, 79] (by decide +kernel) (by decide +kernel)
set_option maxRecDepth 20000 in
theorem gX8_lastDue_X8_ahead : GoodIn wsX8_lastDue (wsV RX8 124 RX8 yX8_ahead wsX8_ahead) := goodIn_app (goodIn_of _ (by decide +kernel)) ggX8_lastDue_X8_ahead
theorem dX8_lastDue_0 : decode cX8_lastDue 0 = .ok (.aload_n 0, 1) := by decide +kernel
theorem dX8_lastDue_1 : decode cX8_lastDue 1 = .ok (.iload_n 1, 1) := by decide +kernel
theorem dX8_lastDue_2 : decode cX8_lastDue 2 = .ok (.invokevirtual 315, 3) := by decide +kernel
theorem dX8_lastDue_5 : decode cX8_lastDue 5 = .ok (.ifCond .eq 7, 3) := by decide +kernel
theorem dX8_lastDue_8 : decode cX8_lastDue 8 = .ok (.iconst 0, 1) := by decide +kernel
theorem dX8_lastDue_9 : decode cX8_lastDue 9 = .ok (.goto 8, 3) := by decide +kernel
theorem dX8_lastDue_12 : decode cX8_lastDue 12 = .ok (.aload_n 0, 1) := by decide +kernel
theorem dX8_lastDue_13 : decode cX8_lastDue 13 = .ok (.iload_n 1, 1) := by decide +kernel
theorem dX8_lastDue_14 : decode cX8_lastDue 14 = .ok (.invokevirtual 124, 3) := by decide +kernel
theorem dX8_lastDue_17 : decode cX8_lastDue 17 = .ok (.ireturn, 1) := by decide +kernel
set_option maxRecDepth 20000 in
theorem ggX8_monthsToHalf_X8_noOpen : GoodIn wsX8_monthsToHalf wsX8_noOpen := goodIn_r _ [7, 8, 9, 10, 11, 6, 12, 13, 14, 15, 16, 17, 18, 19, 20, 21, 22, 23, 24, 25, 44, 45, 46, 47, 48, 49, 50, 51, 52, 53, 54, 55, 56, 57, 58, 59, 60, 61, 62, 63, 64, 65, 66, 67, 68, 69, 70, 71, 72] (by decide +kernel) (by decide +kernel)
set_option maxRecDepth 20000 in
theorem gX8_monthsToHalf_X8_noOpen : GoodIn wsX8_monthsToHalf (wsV RX8 315 RX8 yX8_noOpen wsX8_noOpen) := goodIn_app (goodIn_of _ (by decide +kernel)) ggX8_monthsToHalf_X8_noOpen
set_option maxRecDepth 20000 in
theorem ggX8_monthsToHalf_X8_beginWith : GoodIn wsX8_monthsToHalf wsX8_beginWith := goodIn_r _ [29, 22, 23, 24, 6, 25, 13, 30, 31, 32, 33, 2, 34, 35, 36, 37, 38, 44, 45, 46, 47, 48, 49, 50, 51, 52, 53, 54, 55, 56, 57, 58, 59, 60, 61, 62, 63, 64, 65, 66, 67, 68, 69, 70, 71, 72] (by decide +kernel) (by decide +kernel)
set_option maxRecDepth 20000 in
theorem gX8_monthsToHalf_X8_beginWith : GoodIn wsX8_monthsToHalf (wsV RX8 107 RX8 yX8_beginWith wsX8_beginWith) := goodIn_app (goodIn_of _ (by decide +kernel)) ggX8_monthsToHalf_X8_beginWith
set_option maxRecDepth 20000 in
theorem ggX8_monthsToHalf_X8_of : GoodIn wsX8_monthsToHalf wsX8_of := goodIn_r _ [25, 13, 44, 45, 46, 47, 48, 49, 50, 51, 52, 53, 54, 55, 56, 57, 58, 59, 60, 61, 62, 63, 64, 65, 66, 67, 68, 69, 70, 71, 72] (by decide +kernel) (by decide +kernel)
set_option maxRecDepth 20000 in
theorem gX8_monthsToHalf_X8_of : GoodIn wsX8_monthsToHalf (wsV RX8 70 RX8 yX8_of wsX8_of) := goodIn_app (goodIn_of _ (by decide +kernel)) ggX8_monthsToHalf_X8_of
set_option maxRecDepth 20000 in
theorem ggX8_monthsToHalf_X8_step : GoodIn wsX8_monthsToHalf wsX8_step := goodIn_r _ [42, 2, 34, 43, 38, 37, 36, 35, 44, 45, 46, 47, 48, 49, 50, 51, 52, 53, 54, 55, 56, 57, 58, 59, 60, 61, 62, 63, 64, 65, 66, 67, 68, 69, 70, 71, 72] (by decide +kernel) (by decide +kernel)
set_option maxRecDepth 20000 in
theorem gX8_monthsToHalf_X8_step : GoodIn wsX8_monthsToHalf (wsV RX8 103 RX8 yX8_step wsX8_step) := goodIn_app (goodIn_of _ (by decide +kernel)) ggX8_monthsToHalf_X8_step
theorem dX8_monthsToHalf_0 : decode cX8_monthsToHalf 0 = .ok (.aload_n 0, 1) := by decide +kernel
theorem dX8_monthsToHalf_1 : decode cX8_monthsToHalf 1 = .ok (.iload_n 1, 1) := by decide +kernel
theorem dX8_monthsToHalf_2 : decode cX8_monthsToHalf 2 = .ok (.invokevirtual 315, 3) := by decide +kernel
theorem dX8_monthsToHalf_5 : decode cX8_monthsToHalf 5 = .ok (.ifCond .eq 5, 3) := by decide +kernel
theorem dX8_monthsToHalf_8 : decode cX8_monthsToHalf 8 = .ok (.iconst 0, 1) := by decide +kernel
theorem dX8_monthsToHalf_9 : decode cX8_monthsToHalf 9 = .ok (.ireturn, 1) := by decide +kernel
theorem dX8_monthsToHalf_10 : decode cX8_monthsToHalf 10 = .ok (.aload_n 0, 1) := by decide +kernel
theorem dX8_monthsToHalf_11 : decode cX8_monthsToHalf 11 = .ok (.iload_n 1, 1) := by decide +kernel
theorem dX8_monthsToHalf_12 : decode cX8_monthsToHalf 12 = .ok (.invokevirtual 107, 3) := by decide +kernel
theorem dX8_monthsToHalf_15 : decode cX8_monthsToHalf 15 = .ok (.iconst 0, 1) := by decide +kernel
theorem dX8_monthsToHalf_16 : decode cX8_monthsToHalf 16 = .ok (.istore_n 2, 1) := by decide +kernel
theorem dX8_monthsToHalf_17 : decode cX8_monthsToHalf 17 = .ok (.ldc2_w 115, 3) := by decide +kernel
theorem dX8_monthsToHalf_20 : decode cX8_monthsToHalf 20 = .ok (.aload_n 0, 1) := by decide +kernel
theorem dX8_monthsToHalf_21 : decode cX8_monthsToHalf 21 = .ok (.getfield 78, 3) := by decide +kernel
theorem dX8_monthsToHalf_24 : decode cX8_monthsToHalf 24 = .ok (.lmul, 1) := by decide +kernel
theorem dX8_monthsToHalf_25 : decode cX8_monthsToHalf 25 = .ok (.aload_n 0, 1) := by decide +kernel
theorem dX8_monthsToHalf_26 : decode cX8_monthsToHalf 26 = .ok (.iload_n 1, 1) := by decide +kernel
theorem dX8_monthsToHalf_27 : decode cX8_monthsToHalf 27 = .ok (.iconst 0, 1) := by decide +kernel
theorem dX8_monthsToHalf_28 : decode cX8_monthsToHalf 28 = .ok (.invokevirtual 70, 3) := by decide +kernel
theorem dX8_monthsToHalf_31 : decode cX8_monthsToHalf 31 = .ok (.i2l, 1) := by decide +kernel
theorem dX8_monthsToHalf_32 : decode cX8_monthsToHalf 32 = .ok (.lcmp, 1) := by decide +kernel
theorem dX8_monthsToHalf_33 : decode cX8_monthsToHalf 33 = .ok (.ifCond .le 34, 3) := by decide +kernel
theorem dX8_monthsToHalf_36 : decode cX8_monthsToHalf 36 = .ok (.aload_n 0, 1) := by decide +kernel
theorem dX8_monthsToHalf_37 : decode cX8_monthsToHalf 37 = .ok (.aload_n 0, 1) := by decide +kernel
theorem dX8_monthsToHalf_38 : decode cX8_monthsToHalf 38 = .ok (.iload_n 1, 1) := by decide +kernel
theorem dX8_monthsToHalf_39 : decode cX8_monthsToHalf 39 = .ok (.iconst 2, 1) := by decide +kernel
theorem dX8_monthsToHalf_40 : decode cX8_monthsToHalf 40 = .ok (.invokevirtual 70, 3) := by decide +kernel
theorem dX8_monthsToHalf_43 : decode cX8_monthsToHalf 43 = .ok (.aload_n 0, 1) := by decide +kernel
theorem dX8_monthsToHalf_44 : decode cX8_monthsToHalf 44 = .ok (.iload_n 1, 1) := by decide +kernel
theorem dX8_monthsToHalf_45 : decode cX8_monthsToHalf 45 = .ok (.iconst 4, 1) := by decide +kernel
theorem dX8_monthsToHalf_46 : decode cX8_monthsToHalf 46 = .ok (.invokevirtual 70, 3) := by decide +kernel
theorem dX8_monthsToHalf_49 : decode cX8_monthsToHalf 49 = .ok (.i2l, 1) := by decide +kernel
theorem dX8_monthsToHalf_50 : decode cX8_monthsToHalf 50 = .ok (.aload_n 0, 1) := by decide +kernel
theorem dX8_monthsToHalf_51 : decode cX8_monthsToHalf 51 = .ok (.iload_n 1, 1) := by decide +kernel
theorem dX8_monthsToHalf_52 : decode cX8_monthsToHalf 52 = .ok (.iconst 3, 1) := by decide +kernel
theorem dX8_monthsToHalf_53 : decode cX8_monthsToHalf 53 = .ok (.invokevirtual 70, 3) := by decide +kernel
theorem dX8_monthsToHalf_56 : decode cX8_monthsToHalf 56 = .ok (.iload_n 2, 1) := by decide +kernel
theorem dX8_monthsToHalf_57 : decode cX8_monthsToHalf 57 = .ok (.isub, 1) := by decide +kernel
theorem dX8_monthsToHalf_58 : decode cX8_monthsToHalf 58 = .ok (.invokevirtual 103, 3) := by decide +kernel
theorem dX8_monthsToHalf_61 : decode cX8_monthsToHalf 61 = .ok (.iinc 2 1, 3) := by decide +kernel
theorem dX8_monthsToHalf_64 : decode cX8_monthsToHalf 64 = .ok (.goto (-47), 3) := by decide +kernel
theorem dX8_monthsToHalf_67 : decode cX8_monthsToHalf 67 = .ok (.iload_n 2, 1) := by decide +kernel
theorem dX8_monthsToHalf_68 : decode cX8_monthsToHalf 68 = .ok (.ireturn, 1) := by decide +kernel
set_option maxRecDepth 20000 in
theorem ggX8_installmentFor_X8_noLoan : GoodIn wsX8_installmentFor wsX8_noLoan := goodIn_r _ [6, 7, 8, 9, 10, 5, 11, 1, 52, 53, 54, 55, 56, 57, 58, 59, 60, 61, 62, 63, 64, 65, 66, 67, 68, 69, 70, 71, 72, 73, 74, 75, 76, 77, 78, 79, 80] (by decide +kernel) (by decide +kernel)
set_option maxRecDepth 20000 in
theorem gX8_installmentFor_X8_noLoan : GoodIn wsX8_installmentFor (wsV RX8 163 RX8 yX8_noLoan wsX8_noLoan) := goodIn_app (goodIn_of _ (by decide +kernel)) ggX8_installmentFor_X8_noLoan
set_option maxRecDepth 20000 in
theorem ggX8_installmentFor_X8_outside : GoodIn wsX8_installmentFor wsX8_outside := goodIn_r _ [11, 1, 52, 53, 54, 55, 56, 57, 58, 59, 60, 61, 62, 63, 64, 65, 66, 67, 68, 69, 70, 71, 72, 73, 74, 75, 76, 77, 78, 79, 80] (by decide +kernel) (by decide +kernel)
set_option maxRecDepth 20000 in
theorem gX8_installmentFor_X8_outside : GoodIn wsX8_installmentFor (wsV RX8 66 RX8 yX8_outside wsX8_outside) := goodIn_app (goodIn_of _ (by decide +kernel)) ggX8_installmentFor_X8_outside
set_option maxRecDepth 20000 in
theorem ggX8_installmentFor_X8_isRunning : GoodIn wsX8_installmentFor wsX8_isRunning := goodIn_r _ [15, 16, 17, 18, 5, 19, 7, 52, 53, 54, 55, 56, 57, 58, 59, 60, 61, 62, 63, 64, 65, 66, 67, 68, 69, 70, 71, 72, 73, 74, 75, 76, 77, 78, 79, 80] (by decide +kernel) (by decide +kernel)
set_option maxRecDepth 20000 in
theorem gX8_installmentFor_X8_isRunning : GoodIn wsX8_installmentFor (wsV RX8 130 RX8 yX8_isRunning wsX8_isRunning) := goodIn_app (goodIn_of _ (by decide +kernel)) ggX8_installmentFor_X8_isRunning
set_option maxRecDepth 20000 in
theorem ggX8_installmentFor_X8_of : GoodIn wsX8_installmentFor wsX8_of := goodIn_r _ [19, 7, 52, 53, 54, 55, 56, 57, 58, 59, 60, 61, 62, 63, 64, 65, 66, 67, 68, 69, 70, 71, 72, 73, 74, 75, 76, 77, 78, 79, 80] (by decide +kernel) (by decide +kernel)
set_option maxRecDepth 20000 in
theorem gX8_installmentFor_X8_of : GoodIn wsX8_installmentFor (wsV RX8 70 RX8 yX8_of wsX8_of) := goodIn_app (goodIn_of _ (by decide +kernel)) ggX8_installmentFor_X8_of
set_option maxRecDepth 20000 in
theorem ggX8_installmentFor_X8_level : GoodIn wsX8_installmentFor wsX8_level := goodIn_r _ [23, 24, 25, 26, 27, 28, 5, 29, 16, 17, 18, 19, 7, 30, 31, 32, 33, 34, 35, 36, 37, 38, 39, 40, 41, 42, 43, 44, 45, 46, 47, 48, 49, 50, 51, 52, 53, 54, 55, 56, 57, 58, 59, 60, 61, 62, 63, 64, 65, 66, 67, 68, 69, 70, 71, 72, 73, 74, 75, 76, 77, 78, 79, 80] (by decide +kernel) (by decide +kernel)
set_option maxRecDepth 20000 in
theorem gX8_installmentFor_X8_level : GoodIn wsX8_installmentFor (wsV RX8 121 RX8 yX8_level wsX8_level) := goodIn_app (goodIn_of _ (by decide +kernel)) ggX8_installmentFor_X8_level
theorem dX8_installmentFor_0 : decode cX8_installmentFor 0 = .ok (.aload_n 0, 1) := by decide +kernel
theorem dX8_installmentFor_1 : decode cX8_installmentFor 1 = .ok (.iconst 0, 1) := by decide +kernel
theorem dX8_installmentFor_2 : decode cX8_installmentFor 2 = .ok (.putfield 56, 3) := by decide +kernel
theorem dX8_installmentFor_5 : decode cX8_installmentFor 5 = .ok (.aload_n 0, 1) := by decide +kernel
theorem dX8_installmentFor_6 : decode cX8_installmentFor 6 = .ok (.iload_n 1, 1) := by decide +kernel
theorem dX8_installmentFor_7 : decode cX8_installmentFor 7 = .ok (.invokevirtual 163, 3) := by decide +kernel
theorem dX8_installmentFor_10 : decode cX8_installmentFor 10 = .ok (.ifCond .ne 23, 3) := by decide +kernel
theorem dX8_installmentFor_13 : decode cX8_installmentFor 13 = .ok (.aload_n 0, 1) := by decide +kernel
theorem dX8_installmentFor_14 : decode cX8_installmentFor 14 = .ok (.iload_n 2, 1) := by decide +kernel
theorem dX8_installmentFor_15 : decode cX8_installmentFor 15 = .ok (.iconst 1, 1) := by decide +kernel
theorem dX8_installmentFor_16 : decode cX8_installmentFor 16 = .ok (.bipush 120, 2) := by decide +kernel
theorem dX8_installmentFor_18 : decode cX8_installmentFor 18 = .ok (.iconst 2, 1) := by decide +kernel
theorem dX8_installmentFor_19 : decode cX8_installmentFor 19 = .ok (.invokevirtual 66, 3) := by decide +kernel
theorem dX8_installmentFor_22 : decode cX8_installmentFor 22 = .ok (.ifCond .ne 11, 3) := by decide +kernel
theorem dX8_installmentFor_25 : decode cX8_installmentFor 25 = .ok (.aload_n 0, 1) := by decide +kernel
theorem dX8_installmentFor_26 : decode cX8_installmentFor 26 = .ok (.iload_n 1, 1) := by decide +kernel
theorem dX8_installmentFor_27 : decode cX8_installmentFor 27 = .ok (.invokevirtual 130, 3) := by decide +kernel
theorem dX8_installmentFor_30 : decode cX8_installmentFor 30 = .ok (.ifCond .ne 5, 3) := by decide +kernel
theorem dX8_installmentFor_33 : decode cX8_installmentFor 33 = .ok (.iconst 0, 1) := by decide +kernel
theorem dX8_installmentFor_34 : decode cX8_installmentFor 34 = .ok (.ireturn, 1) := by decide +kernel
theorem dX8_installmentFor_35 : decode cX8_installmentFor 35 = .ok (.aload_n 0, 1) := by decide +kernel
theorem dX8_installmentFor_36 : decode cX8_installmentFor 36 = .ok (.iload_n 1, 1) := by decide +kernel
theorem dX8_installmentFor_37 : decode cX8_installmentFor 37 = .ok (.aload_n 0, 1) := by decide +kernel
theorem dX8_installmentFor_38 : decode cX8_installmentFor 38 = .ok (.iload_n 1, 1) := by decide +kernel
theorem dX8_installmentFor_39 : decode cX8_installmentFor 39 = .ok (.iconst 2, 1) := by decide +kernel
theorem dX8_installmentFor_40 : decode cX8_installmentFor 40 = .ok (.invokevirtual 70, 3) := by decide +kernel
theorem dX8_installmentFor_43 : decode cX8_installmentFor 43 = .ok (.iload_n 2, 1) := by decide +kernel
theorem dX8_installmentFor_44 : decode cX8_installmentFor 44 = .ok (.invokevirtual 121, 3) := by decide +kernel
theorem dX8_installmentFor_47 : decode cX8_installmentFor 47 = .ok (.ireturn, 1) := by decide +kernel
set_option maxRecDepth 20000 in
theorem ggX8_monthsFor_X8_noLoan : GoodIn wsX8_monthsFor wsX8_noLoan := goodIn_r _ [7, 8, 9, 10, 11, 6, 12, 1, 52, 53, 54, 55, 56, 57, 58, 59, 60, 61, 62, 63, 64, 65, 66, 67, 68, 69, 70, 71, 72, 73, 74, 75, 76, 77, 78, 79, 80] (by decide +kernel) (by decide +kernel)
set_option maxRecDepth 20000 in
theorem gX8_monthsFor_X8_noLoan : GoodIn wsX8_monthsFor (wsV RX8 163 RX8 yX8_noLoan wsX8_noLoan) := goodIn_app (goodIn_of _ (by decide +kernel)) ggX8_monthsFor_X8_noLoan
set_option maxRecDepth 20000 in
theorem ggX8_monthsFor_X8_outside : GoodIn wsX8_monthsFor wsX8_outside := goodIn_r _ [12, 1, 52, 53, 54, 55, 56, 57, 58, 59, 60, 61, 62, 63, 64, 65, 66, 67, 68, 69, 70, 71, 72, 73, 74, 75, 76, 77, 78, 79, 80] (by decide +kernel) (by decide +kernel)
set_option maxRecDepth 20000 in
theorem gX8_monthsFor_X8_outside : GoodIn wsX8_monthsFor (wsV RX8 66 RX8 yX8_outside wsX8_outside) := goodIn_app (goodIn_of _ (by decide +kernel)) ggX8_monthsFor_X8_outside
set_option maxRecDepth 20000 in
theorem ggX8_monthsFor_X8_isRunning : GoodIn wsX8_monthsFor wsX8_isRunning := goodIn_r _ [16, 17, 18, 19, 6, 20, 8, 52, 53, 54, 55, 56, 57, 58, 59, 60, 61, 62, 63, 64, 65, 66, 67, 68, 69, 70, 71, 72, 73, 74, 75, 76, 77, 78, 79, 80] (by decide +kernel) (by decide +kernel)
set_option maxRecDepth 20000 in
theorem gX8_monthsFor_X8_isRunning : GoodIn wsX8_monthsFor (wsV RX8 130 RX8 yX8_isRunning wsX8_isRunning) := goodIn_app (goodIn_of _ (by decide +kernel)) ggX8_monthsFor_X8_isRunning
set_option maxRecDepth 20000 in
theorem ggX8_monthsFor_X8_of : GoodIn wsX8_monthsFor wsX8_of := goodIn_r _ [20, 8, 52, 53, 54, 55, 56, 57, 58, 59, 60, 61, 62, 63, 64, 65, 66, 67, 68, 69, 70, 71, 72, 73, 74, 75, 76, 77, 78, 79, 80] (by decide +kernel) (by decide +kernel)
set_option maxRecDepth 20000 in
theorem gX8_monthsFor_X8_of : GoodIn wsX8_monthsFor (wsV RX8 70 RX8 yX8_of wsX8_of) := goodIn_app (goodIn_of _ (by decide +kernel)) ggX8_monthsFor_X8_of
set_option maxRecDepth 20000 in
theorem ggX8_monthsFor_X8_fewestMonths : GoodIn wsX8_monthsFor wsX8_fewestMonths := goodIn_r _ [24, 25, 26, 27, 6, 28, 29, 30, 31, 32, 17, 18, 19, 20, 8, 33, 34, 35, 36, 37, 38, 39, 40, 41, 42, 43, 44, 45, 46, 47, 48, 49, 50, 51, 52, 53, 54, 55, 56, 57, 58, 59, 60, 61, 62, 63, 64, 65, 66, 67, 68, 69, 70, 71, 72, 73, 74, 75, 76, 77, 78, 79, 80] (by decide +kernel) (by decide +kernel)
set_option maxRecDepth 20000 in
theorem gX8_monthsFor_X8_fewestMonths : GoodIn wsX8_monthsFor (wsV RX8 149 RX8 yX8_fewestMonths wsX8_fewestMonths) := goodIn_app (goodIn_of _ (by decide +kernel)) ggX8_monthsFor_X8_fewestMonths
theorem dX8_monthsFor_0 : decode cX8_monthsFor 0 = .ok (.aload_n 0, 1) := by decide +kernel
theorem dX8_monthsFor_1 : decode cX8_monthsFor 1 = .ok (.iconst 0, 1) := by decide +kernel
theorem dX8_monthsFor_2 : decode cX8_monthsFor 2 = .ok (.putfield 56, 3) := by decide +kernel
theorem dX8_monthsFor_5 : decode cX8_monthsFor 5 = .ok (.aload_n 0, 1) := by decide +kernel
theorem dX8_monthsFor_6 : decode cX8_monthsFor 6 = .ok (.iload_n 1, 1) := by decide +kernel
theorem dX8_monthsFor_7 : decode cX8_monthsFor 7 = .ok (.invokevirtual 163, 3) := by decide +kernel
theorem dX8_monthsFor_10 : decode cX8_monthsFor 10 = .ok (.ifCond .ne 23, 3) := by decide +kernel
theorem dX8_monthsFor_13 : decode cX8_monthsFor 13 = .ok (.aload_n 0, 1) := by decide +kernel
theorem dX8_monthsFor_14 : decode cX8_monthsFor 14 = .ok (.iload_n 2, 1) := by decide +kernel
theorem dX8_monthsFor_15 : decode cX8_monthsFor 15 = .ok (.iconst 1, 1) := by decide +kernel
theorem dX8_monthsFor_16 : decode cX8_monthsFor 16 = .ok (.ldc 154, 2) := by decide +kernel
theorem dX8_monthsFor_18 : decode cX8_monthsFor 18 = .ok (.iconst 2, 1) := by decide +kernel
theorem dX8_monthsFor_19 : decode cX8_monthsFor 19 = .ok (.invokevirtual 66, 3) := by decide +kernel
theorem dX8_monthsFor_22 : decode cX8_monthsFor 22 = .ok (.ifCond .ne 11, 3) := by decide +kernel
theorem dX8_monthsFor_25 : decode cX8_monthsFor 25 = .ok (.aload_n 0, 1) := by decide +kernel
theorem dX8_monthsFor_26 : decode cX8_monthsFor 26 = .ok (.iload_n 1, 1) := by decide +kernel
theorem dX8_monthsFor_27 : decode cX8_monthsFor 27 = .ok (.invokevirtual 130, 3) := by decide +kernel
theorem dX8_monthsFor_30 : decode cX8_monthsFor 30 = .ok (.ifCond .ne 5, 3) := by decide +kernel
theorem dX8_monthsFor_33 : decode cX8_monthsFor 33 = .ok (.iconst 0, 1) := by decide +kernel
theorem dX8_monthsFor_34 : decode cX8_monthsFor 34 = .ok (.ireturn, 1) := by decide +kernel
theorem dX8_monthsFor_35 : decode cX8_monthsFor 35 = .ok (.aload_n 0, 1) := by decide +kernel
theorem dX8_monthsFor_36 : decode cX8_monthsFor 36 = .ok (.iload_n 1, 1) := by decide +kernel
theorem dX8_monthsFor_37 : decode cX8_monthsFor 37 = .ok (.aload_n 0, 1) := by decide +kernel
theorem dX8_monthsFor_38 : decode cX8_monthsFor 38 = .ok (.iload_n 1, 1) := by decide +kernel
theorem dX8_monthsFor_39 : decode cX8_monthsFor 39 = .ok (.iconst 2, 1) := by decide +kernel
theorem dX8_monthsFor_40 : decode cX8_monthsFor 40 = .ok (.invokevirtual 70, 3) := by decide +kernel
theorem dX8_monthsFor_43 : decode cX8_monthsFor 43 = .ok (.iload_n 2, 1) := by decide +kernel
theorem dX8_monthsFor_44 : decode cX8_monthsFor 44 = .ok (.invokevirtual 149, 3) := by decide +kernel
theorem dX8_monthsFor_47 : decode cX8_monthsFor 47 = .ok (.ireturn, 1) := by decide +kernel
set_option maxRecDepth 20000 in
theorem ggX8_savingOfExtra_X8_noLoan : GoodIn wsX8_savingOfExtra wsX8_noLoan := goodIn_r _ [9, 3, 10, 11, 12, 8, 13, 1, 97, 98, 99, 100, 101, 102, 103, 104, 105, 106, 107, 108, 109, 110, 111, 112, 113, 114, 115, 116, 117, 118, 119, 120, 121, 122, 123, 124, 125] (by decide +kernel) (by decide +kernel)
set_option maxRecDepth 20000 in
theorem gX8_savingOfExtra_X8_noLoan : GoodIn wsX8_savingOfExtra (wsV RX8 163 RX8 yX8_noLoan wsX8_noLoan) := goodIn_app (goodIn_of _ (by decide +kernel)) ggX8_savingOfExtra_X8_noLoan
set_option maxRecDepth 20000 in
theorem ggX8_savingOfExtra_X8_outside : GoodIn wsX8_savingOfExtra wsX8_outside := goodIn_r _ [13, 1, 97, 98, 99, 100, 101, 102, 103, 104, 105, 106, 107, 108, 109, 110, 111, 112, 113, 114, 115, 116, 117, 118, 119, 120, 121, 122, 123, 124, 125] (by decide +kernel) (by decide +kernel)
set_option maxRecDepth 20000 in
theorem gX8_savingOfExtra_X8_outside : GoodIn wsX8_savingOfExtra (wsV RX8 66 RX8 yX8_outside wsX8_outside) := goodIn_app (goodIn_of _ (by decide +kernel)) ggX8_savingOfExtra_X8_outside
set_option maxRecDepth 20000 in
theorem ggX8_savingOfExtra_X8_cannotPayExtra : GoodIn wsX8_savingOfExtra wsX8_cannotPayExtra := goodIn_r _ [17, 18, 19, 20, 8, 21, 22, 23, 24, 25, 3, 97, 98, 99, 100, 101, 102, 103, 104, 105, 106, 107, 108, 109, 110, 111, 112, 113, 114, 115, 116, 117, 118, 119, 120, 121, 122, 123, 124, 125] (by decide +kernel) (by decide +kernel)
set_option maxRecDepth 20000 in
theorem gX8_savingOfExtra_X8_cannotPayExtra : GoodIn wsX8_savingOfExtra (wsV RX8 166 RX8 yX8_cannotPayExtra wsX8_cannotPayExtra) := goodIn_app (goodIn_of _ (by decide +kernel)) ggX8_savingOfExtra_X8_cannotPayExtra
set_option maxRecDepth 20000 in
theorem ggX8_savingOfExtra_X8_copy : GoodIn wsX8_savingOfExtra wsX8_copy := goodIn_r _ [28] (by decide +kernel) (by decide +kernel)
set_option maxRecDepth 20000 in
theorem gX8_savingOfExtra_X8_copy : GoodIn wsX8_savingOfExtra (va_wsS RX8 62 yX8_copy wsX8_copy) := goodIn_app (goodIn_of _ (by decide +kernel)) ggX8_savingOfExtra_X8_copy
set_option maxRecDepth 20000 in
theorem ggX8_savingOfExtra_X8_costAhead : GoodIn wsX8_savingOfExtra wsX8_costAhead := goodIn_r _ [32, 33, 34, 35, 36, 8, 37, 38, 39, 40, 41, 22, 23, 24, 25, 3, 42, 43, 44, 45, 46, 47, 48, 49, 50, 51, 52, 53, 54, 55, 56, 57, 58, 59, 97, 98, 99, 100, 101, 102, 103, 104, 105, 106, 107, 108, 109, 110, 111, 112, 113, 114, 115, 116, 117, 118, 119, 120, 121, 122, 123, 124, 125] (by decide +kernel) (by decide +kernel)
set_option maxRecDepth 20000 in
theorem gX8_savingOfExtra_X8_costAhead : GoodIn wsX8_savingOfExtra (wsV RX8 321 RX8 yX8_costAhead wsX8_costAhead) := goodIn_app (goodIn_of _ (by decide +kernel)) ggX8_savingOfExtra_X8_costAhead
set_option maxRecDepth 20000 in
theorem ggX8_savingOfExtra_X8_extra : GoodIn wsX8_savingOfExtra wsX8_extra := goodIn_r _ [63, 64, 65, 66, 8, 67, 22, 23, 24, 25, 3, 68, 69, 70, 71, 72, 73, 74, 75, 76, 77, 78, 79, 18, 19, 20, 21, 80, 81, 82, 83, 84, 85, 86, 87, 49, 88, 38, 39, 40, 41, 42, 43, 44, 45, 46, 47, 48, 33, 50, 55, 56, 57, 58, 59, 89, 90, 91, 92, 51, 52, 53, 54, 93, 94, 95, 96, 97, 98, 99, 100, 101, 102, 103, 104, 105, 106, 107, 108, 109, 110, 111, 112, 113, 114, 115, 116, 117, 118, 119, 120, 121, 122, 123, 124, 125] (by decide +kernel) (by decide +kernel)
set_option maxRecDepth 20000 in
theorem gX8_savingOfExtra_X8_extra : GoodIn wsX8_savingOfExtra (wsV RX8 48 RX8 yX8_extra wsX8_extra) := goodIn_app (goodIn_of _ (by decide +kernel)) ggX8_savingOfExtra_X8_extra
theorem dX8_savingOfExtra_0 : decode cX8_savingOfExtra 0 = .ok (.aload_n 0, 1) := by decide +kernel
theorem dX8_savingOfExtra_1 : decode cX8_savingOfExtra 1 = .ok (.iconst 0, 1) := by decide +kernel
theorem dX8_savingOfExtra_2 : decode cX8_savingOfExtra 2 = .ok (.putfield 56, 3) := by decide +kernel
theorem dX8_savingOfExtra_5 : decode cX8_savingOfExtra 5 = .ok (.aload_n 0, 1) := by decide +kernel
theorem dX8_savingOfExtra_6 : decode cX8_savingOfExtra 6 = .ok (.iload_n 1, 1) := by decide +kernel
theorem dX8_savingOfExtra_7 : decode cX8_savingOfExtra 7 = .ok (.invokevirtual 163, 3) := by decide +kernel
theorem dX8_savingOfExtra_10 : decode cX8_savingOfExtra 10 = .ok (.ifCond .ne 24, 3) := by decide +kernel
theorem dX8_savingOfExtra_13 : decode cX8_savingOfExtra 13 = .ok (.aload_n 0, 1) := by decide +kernel
theorem dX8_savingOfExtra_14 : decode cX8_savingOfExtra 14 = .ok (.iload_n 2, 1) := by decide +kernel
theorem dX8_savingOfExtra_15 : decode cX8_savingOfExtra 15 = .ok (.iconst 1, 1) := by decide +kernel
theorem dX8_savingOfExtra_16 : decode cX8_savingOfExtra 16 = .ok (.ldc 154, 2) := by decide +kernel
theorem dX8_savingOfExtra_18 : decode cX8_savingOfExtra 18 = .ok (.iconst 2, 1) := by decide +kernel
theorem dX8_savingOfExtra_19 : decode cX8_savingOfExtra 19 = .ok (.invokevirtual 66, 3) := by decide +kernel
theorem dX8_savingOfExtra_22 : decode cX8_savingOfExtra 22 = .ok (.ifCond .ne 12, 3) := by decide +kernel
theorem dX8_savingOfExtra_25 : decode cX8_savingOfExtra 25 = .ok (.aload_n 0, 1) := by decide +kernel
theorem dX8_savingOfExtra_26 : decode cX8_savingOfExtra 26 = .ok (.iload_n 1, 1) := by decide +kernel
theorem dX8_savingOfExtra_27 : decode cX8_savingOfExtra 27 = .ok (.iload_n 2, 1) := by decide +kernel
theorem dX8_savingOfExtra_28 : decode cX8_savingOfExtra 28 = .ok (.invokevirtual 166, 3) := by decide +kernel
theorem dX8_savingOfExtra_31 : decode cX8_savingOfExtra 31 = .ok (.ifCond .eq 5, 3) := by decide +kernel
theorem dX8_savingOfExtra_34 : decode cX8_savingOfExtra 34 = .ok (.iconst 0, 1) := by decide +kernel
theorem dX8_savingOfExtra_35 : decode cX8_savingOfExtra 35 = .ok (.ireturn, 1) := by decide +kernel
theorem dX8_savingOfExtra_36 : decode cX8_savingOfExtra 36 = .ok (.aload_n 0, 1) := by decide +kernel
theorem dX8_savingOfExtra_37 : decode cX8_savingOfExtra 37 = .ok (.getfield 9, 3) := by decide +kernel
theorem dX8_savingOfExtra_40 : decode cX8_savingOfExtra 40 = .ok (.aload_n 0, 1) := by decide +kernel
theorem dX8_savingOfExtra_41 : decode cX8_savingOfExtra 41 = .ok (.getfield 24, 3) := by decide +kernel
theorem dX8_savingOfExtra_44 : decode cX8_savingOfExtra 44 = .ok (.invokestatic 62, 3) := by decide +kernel
theorem dX8_savingOfExtra_47 : decode cX8_savingOfExtra 47 = .ok (.aload_n 0, 1) := by decide +kernel
theorem dX8_savingOfExtra_48 : decode cX8_savingOfExtra 48 = .ok (.iload_n 1, 1) := by decide +kernel
theorem dX8_savingOfExtra_49 : decode cX8_savingOfExtra 49 = .ok (.invokevirtual 321, 3) := by decide +kernel
theorem dX8_savingOfExtra_52 : decode cX8_savingOfExtra 52 = .ok (.istore 4, 2) := by decide +kernel
theorem dX8_savingOfExtra_54 : decode cX8_savingOfExtra 54 = .ok (.aload_n 0, 1) := by decide +kernel
theorem dX8_savingOfExtra_55 : decode cX8_savingOfExtra 55 = .ok (.iload_n 1, 1) := by decide +kernel
theorem dX8_savingOfExtra_56 : decode cX8_savingOfExtra 56 = .ok (.iload_n 2, 1) := by decide +kernel
theorem dX8_savingOfExtra_57 : decode cX8_savingOfExtra 57 = .ok (.iload_n 3, 1) := by decide +kernel
theorem dX8_savingOfExtra_58 : decode cX8_savingOfExtra 58 = .ok (.invokevirtual 48, 3) := by decide +kernel
theorem dX8_savingOfExtra_61 : decode cX8_savingOfExtra 61 = .ok (.aload_n 0, 1) := by decide +kernel
theorem dX8_savingOfExtra_62 : decode cX8_savingOfExtra 62 = .ok (.iload_n 1, 1) := by decide +kernel
theorem dX8_savingOfExtra_63 : decode cX8_savingOfExtra 63 = .ok (.invokevirtual 321, 3) := by decide +kernel
theorem dX8_savingOfExtra_66 : decode cX8_savingOfExtra 66 = .ok (.istore 5, 2) := by decide +kernel
theorem dX8_savingOfExtra_68 : decode cX8_savingOfExtra 68 = .ok (.aload_n 0, 1) := by decide +kernel
theorem dX8_savingOfExtra_69 : decode cX8_savingOfExtra 69 = .ok (.getfield 24, 3) := by decide +kernel
theorem dX8_savingOfExtra_72 : decode cX8_savingOfExtra 72 = .ok (.aload_n 0, 1) := by decide +kernel
theorem dX8_savingOfExtra_73 : decode cX8_savingOfExtra 73 = .ok (.getfield 9, 3) := by decide +kernel
theorem dX8_savingOfExtra_76 : decode cX8_savingOfExtra 76 = .ok (.invokestatic 62, 3) := by decide +kernel
theorem dX8_savingOfExtra_79 : decode cX8_savingOfExtra 79 = .ok (.iload 4, 2) := by decide +kernel
theorem dX8_savingOfExtra_81 : decode cX8_savingOfExtra 81 = .ok (.iload 5, 2) := by decide +kernel
theorem dX8_savingOfExtra_83 : decode cX8_savingOfExtra 83 = .ok (.isub, 1) := by decide +kernel
theorem dX8_savingOfExtra_84 : decode cX8_savingOfExtra 84 = .ok (.ireturn, 1) := by decide +kernel
set_option maxRecDepth 20000 in
theorem ggX8_interestIfRate_X8_noLoan : GoodIn wsX8_interestIfRate wsX8_noLoan := goodIn_r _ [8, 2, 9, 10, 11, 7, 12, 1, 76, 77, 78, 79, 80, 81, 82, 83, 84, 85, 86, 87, 88, 89, 90, 91, 92, 93, 94, 95, 96, 97, 98, 99, 100, 101, 102, 103, 104] (by decide +kernel) (by decide +kernel)
set_option maxRecDepth 20000 in
theorem gX8_interestIfRate_X8_noLoan : GoodIn wsX8_interestIfRate (wsV RX8 163 RX8 yX8_noLoan wsX8_noLoan) := goodIn_app (goodIn_of _ (by decide +kernel)) ggX8_interestIfRate_X8_noLoan
set_option maxRecDepth 20000 in
theorem ggX8_interestIfRate_X8_outside : GoodIn wsX8_interestIfRate wsX8_outside := goodIn_r _ [12, 1, 76, 77, 78, 79, 80, 81, 82, 83, 84, 85, 86, 87, 88, 89, 90, 91, 92, 93, 94, 95, 96, 97, 98, 99, 100, 101, 102, 103, 104] (by decide +kernel) (by decide +kernel)
set_option maxRecDepth 20000 in
theorem gX8_interestIfRate_X8_outside : GoodIn wsX8_interestIfRate (wsV RX8 66 RX8 yX8_outside wsX8_outside) := goodIn_app (goodIn_of _ (by decide +kernel)) ggX8_interestIfRate_X8_outside
set_option maxRecDepth 20000 in
theorem ggX8_interestIfRate_X8_isRunning : GoodIn wsX8_interestIfRate wsX8_isRunning := goodIn_r _ [16, 17, 18, 19, 7, 20, 2, 76, 77, 78, 79, 80, 81, 82, 83, 84, 85, 86, 87, 88, 89, 90, 91, 92, 93, 94, 95, 96, 97, 98, 99, 100, 101, 102, 103, 104] (by decide +kernel) (by decide +kernel)
set_option maxRecDepth 20000 in
theorem gX8_interestIfRate_X8_isRunning : GoodIn wsX8_interestIfRate (wsV RX8 130 RX8 yX8_isRunning wsX8_isRunning) := goodIn_app (goodIn_of _ (by decide +kernel)) ggX8_interestIfRate_X8_isRunning
set_option maxRecDepth 20000 in
theorem ggX8_interestIfRate_X8_copy : GoodIn wsX8_interestIfRate wsX8_copy := goodIn_r _ [23] (by decide +kernel) (by decide +kernel)
set_option maxRecDepth 20000 in
theorem gX8_interestIfRate_X8_copy : GoodIn wsX8_interestIfRate (va_wsS RX8 62 yX8_copy wsX8_copy) := goodIn_app (goodIn_of _ (by decide +kernel)) ggX8_interestIfRate_X8_copy
set_option maxRecDepth 20000 in
theorem ggX8_interestIfRate_X8_setRate : GoodIn wsX8_interestIfRate wsX8_setRate := goodIn_r _ [27, 28, 29, 30, 7, 31, 2, 32, 33, 34, 35, 17, 18, 19, 20, 36, 37, 38, 39, 40, 41, 42, 43, 44, 45, 46, 47, 48, 49, 50, 51, 52, 53, 54, 55, 56, 57, 58, 59, 60, 61, 62, 63, 64, 65, 66, 67, 76, 77, 78, 79, 80, 81, 82, 83, 84, 85, 86, 87, 88, 89, 90, 91, 92, 93, 94, 95, 96, 97, 98, 99, 100, 101, 102, 103, 104] (by decide +kernel) (by decide +kernel)
set_option maxRecDepth 20000 in
theorem gX8_interestIfRate_X8_setRate : GoodIn wsX8_interestIfRate (wsV RX8 173 RX8 yX8_setRate wsX8_setRate) := goodIn_app (goodIn_of _ (by decide +kernel)) ggX8_interestIfRate_X8_setRate
set_option maxRecDepth 20000 in
theorem ggX8_interestIfRate_X8_costAhead : GoodIn wsX8_interestIfRate wsX8_costAhead := goodIn_r _ [71, 53, 72, 73, 74, 7, 75, 42, 43, 44, 45, 17, 18, 19, 20, 2, 46, 47, 48, 49, 50, 51, 52, 40, 54, 64, 65, 66, 67, 55, 56, 57, 58, 59, 76, 77, 78, 79, 80, 81, 82, 83, 84, 85, 86, 87, 88, 89, 90, 91, 92, 93, 94, 95, 96, 97, 98, 99, 100, 101, 102, 103, 104] (by decide +kernel) (by decide +kernel)
set_option maxRecDepth 20000 in
theorem gX8_interestIfRate_X8_costAhead : GoodIn wsX8_interestIfRate (wsV RX8 321 RX8 yX8_costAhead wsX8_costAhead) := goodIn_app (goodIn_of _ (by decide +kernel)) ggX8_interestIfRate_X8_costAhead
theorem dX8_interestIfRate_0 : decode cX8_interestIfRate 0 = .ok (.aload_n 0, 1) := by decide +kernel
theorem dX8_interestIfRate_1 : decode cX8_interestIfRate 1 = .ok (.iconst 0, 1) := by decide +kernel
theorem dX8_interestIfRate_2 : decode cX8_interestIfRate 2 = .ok (.putfield 56, 3) := by decide +kernel
theorem dX8_interestIfRate_5 : decode cX8_interestIfRate 5 = .ok (.aload_n 0, 1) := by decide +kernel
theorem dX8_interestIfRate_6 : decode cX8_interestIfRate 6 = .ok (.iload_n 1, 1) := by decide +kernel
theorem dX8_interestIfRate_7 : decode cX8_interestIfRate 7 = .ok (.invokevirtual 163, 3) := by decide +kernel
theorem dX8_interestIfRate_10 : decode cX8_interestIfRate 10 = .ok (.ifCond .ne 24, 3) := by decide +kernel
theorem dX8_interestIfRate_13 : decode cX8_interestIfRate 13 = .ok (.aload_n 0, 1) := by decide +kernel
theorem dX8_interestIfRate_14 : decode cX8_interestIfRate 14 = .ok (.iload_n 2, 1) := by decide +kernel
theorem dX8_interestIfRate_15 : decode cX8_interestIfRate 15 = .ok (.iconst 0, 1) := by decide +kernel
theorem dX8_interestIfRate_16 : decode cX8_interestIfRate 16 = .ok (.sipush 3000, 3) := by decide +kernel
theorem dX8_interestIfRate_19 : decode cX8_interestIfRate 19 = .ok (.iconst 2, 1) := by decide +kernel
theorem dX8_interestIfRate_20 : decode cX8_interestIfRate 20 = .ok (.invokevirtual 66, 3) := by decide +kernel
theorem dX8_interestIfRate_23 : decode cX8_interestIfRate 23 = .ok (.ifCond .ne 11, 3) := by decide +kernel
theorem dX8_interestIfRate_26 : decode cX8_interestIfRate 26 = .ok (.aload_n 0, 1) := by decide +kernel
theorem dX8_interestIfRate_27 : decode cX8_interestIfRate 27 = .ok (.iload_n 1, 1) := by decide +kernel
theorem dX8_interestIfRate_28 : decode cX8_interestIfRate 28 = .ok (.invokevirtual 130, 3) := by decide +kernel
theorem dX8_interestIfRate_31 : decode cX8_interestIfRate 31 = .ok (.ifCond .ne 5, 3) := by decide +kernel
theorem dX8_interestIfRate_34 : decode cX8_interestIfRate 34 = .ok (.iconst 0, 1) := by decide +kernel
theorem dX8_interestIfRate_35 : decode cX8_interestIfRate 35 = .ok (.ireturn, 1) := by decide +kernel
theorem dX8_interestIfRate_36 : decode cX8_interestIfRate 36 = .ok (.aload_n 0, 1) := by decide +kernel
theorem dX8_interestIfRate_37 : decode cX8_interestIfRate 37 = .ok (.getfield 9, 3) := by decide +kernel
theorem dX8_interestIfRate_40 : decode cX8_interestIfRate 40 = .ok (.aload_n 0, 1) := by decide +kernel
theorem dX8_interestIfRate_41 : decode cX8_interestIfRate 41 = .ok (.getfield 24, 3) := by decide +kernel
theorem dX8_interestIfRate_44 : decode cX8_interestIfRate 44 = .ok (.invokestatic 62, 3) := by decide +kernel
theorem dX8_interestIfRate_47 : decode cX8_interestIfRate 47 = .ok (.aload_n 0, 1) := by decide +kernel
theorem dX8_interestIfRate_48 : decode cX8_interestIfRate 48 = .ok (.iload_n 1, 1) := by decide +kernel
theorem dX8_interestIfRate_49 : decode cX8_interestIfRate 49 = .ok (.iload_n 2, 1) := by decide +kernel
theorem dX8_interestIfRate_50 : decode cX8_interestIfRate 50 = .ok (.invokevirtual 173, 3) := by decide +kernel
theorem dX8_interestIfRate_53 : decode cX8_interestIfRate 53 = .ok (.aload_n 0, 1) := by decide +kernel
theorem dX8_interestIfRate_54 : decode cX8_interestIfRate 54 = .ok (.iload_n 1, 1) := by decide +kernel
theorem dX8_interestIfRate_55 : decode cX8_interestIfRate 55 = .ok (.invokevirtual 321, 3) := by decide +kernel
theorem dX8_interestIfRate_58 : decode cX8_interestIfRate 58 = .ok (.istore_n 3, 1) := by decide +kernel
theorem dX8_interestIfRate_59 : decode cX8_interestIfRate 59 = .ok (.aload_n 0, 1) := by decide +kernel
theorem dX8_interestIfRate_60 : decode cX8_interestIfRate 60 = .ok (.getfield 24, 3) := by decide +kernel
theorem dX8_interestIfRate_63 : decode cX8_interestIfRate 63 = .ok (.aload_n 0, 1) := by decide +kernel
theorem dX8_interestIfRate_64 : decode cX8_interestIfRate 64 = .ok (.getfield 9, 3) := by decide +kernel
theorem dX8_interestIfRate_67 : decode cX8_interestIfRate 67 = .ok (.invokestatic 62, 3) := by decide +kernel
theorem dX8_interestIfRate_70 : decode cX8_interestIfRate 70 = .ok (.iload_n 3, 1) := by decide +kernel
theorem dX8_interestIfRate_71 : decode cX8_interestIfRate 71 = .ok (.ireturn, 1) := by decide +kernel
set_option maxRecDepth 20000 in
theorem ggX8_reaches_X8_beginWith : GoodIn wsX8_reaches wsX8_beginWith := goodIn_r _ [6, 7, 8, 9, 5, 10, 11, 12, 13, 14, 15, 1, 16, 17, 18, 19, 20, 26, 27, 28, 29, 30, 31, 32, 33, 34, 35, 36, 37, 38, 39, 40, 41, 42, 43, 44, 45, 46, 47, 48, 49, 50, 51, 52, 53, 54] (by decide +kernel) (by decide +kernel)
set_option maxRecDepth 20000 in
theorem gX8_reaches_X8_beginWith : GoodIn wsX8_reaches (wsV RX8 107 RX8 yX8_beginWith wsX8_beginWith) := goodIn_app (goodIn_of _ (by decide +kernel)) ggX8_reaches_X8_beginWith
set_option maxRecDepth 20000 in
theorem ggX8_reaches_X8_of : GoodIn wsX8_reaches wsX8_of := goodIn_r _ [10, 11, 26, 27, 28, 29, 30, 31, 32, 33, 34, 35, 36, 37, 38, 39, 40, 41, 42, 43, 44, 45, 46, 47, 48, 49, 50, 51, 52, 53, 54] (by decide +kernel) (by decide +kernel)
set_option maxRecDepth 20000 in
theorem gX8_reaches_X8_of : GoodIn wsX8_reaches (wsV RX8 70 RX8 yX8_of wsX8_of) := goodIn_app (goodIn_of _ (by decide +kernel)) ggX8_reaches_X8_of
set_option maxRecDepth 20000 in
theorem ggX8_reaches_X8_step : GoodIn wsX8_reaches wsX8_step := goodIn_r _ [24, 1, 16, 25, 20, 19, 18, 17, 26, 27, 28, 29, 30, 31, 32, 33, 34, 35, 36, 37, 38, 39, 40, 41, 42, 43, 44, 45, 46, 47, 48, 49, 50, 51, 52, 53, 54] (by decide +kernel) (by decide +kernel)
set_option maxRecDepth 20000 in
theorem gX8_reaches_X8_step : GoodIn wsX8_reaches (wsV RX8 103 RX8 yX8_step wsX8_step) := goodIn_app (goodIn_of _ (by decide +kernel)) ggX8_reaches_X8_step
theorem dX8_reaches_0 : decode cX8_reaches 0 = .ok (.aload_n 0, 1) := by decide +kernel
theorem dX8_reaches_1 : decode cX8_reaches 1 = .ok (.iload_n 1, 1) := by decide +kernel
theorem dX8_reaches_2 : decode cX8_reaches 2 = .ok (.invokevirtual 107, 3) := by decide +kernel
theorem dX8_reaches_5 : decode cX8_reaches 5 = .ok (.aload_n 0, 1) := by decide +kernel
theorem dX8_reaches_6 : decode cX8_reaches 6 = .ok (.iload_n 1, 1) := by decide +kernel
theorem dX8_reaches_7 : decode cX8_reaches 7 = .ok (.iconst 3, 1) := by decide +kernel
theorem dX8_reaches_8 : decode cX8_reaches 8 = .ok (.invokevirtual 70, 3) := by decide +kernel
theorem dX8_reaches_11 : decode cX8_reaches 11 = .ok (.istore_n 3, 1) := by decide +kernel
theorem dX8_reaches_12 : decode cX8_reaches 12 = .ok (.iconst 0, 1) := by decide +kernel
theorem dX8_reaches_13 : decode cX8_reaches 13 = .ok (.istore 4, 2) := by decide +kernel
theorem dX8_reaches_15 : decode cX8_reaches 15 = .ok (.iconst 0, 1) := by decide +kernel
theorem dX8_reaches_16 : decode cX8_reaches 16 = .ok (.istore 5, 2) := by decide +kernel
theorem dX8_reaches_18 : decode cX8_reaches 18 = .ok (.iload 5, 2) := by decide +kernel
theorem dX8_reaches_20 : decode cX8_reaches 20 = .ok (.iload_n 2, 1) := by decide +kernel
theorem dX8_reaches_21 : decode cX8_reaches 21 = .ok (.if_icmp .ge 51, 3) := by decide +kernel
theorem dX8_reaches_24 : decode cX8_reaches 24 = .ok (.aload_n 0, 1) := by decide +kernel
theorem dX8_reaches_25 : decode cX8_reaches 25 = .ok (.getfield 78, 3) := by decide +kernel
theorem dX8_reaches_28 : decode cX8_reaches 28 = .ok (.lconst 0, 1) := by decide +kernel
theorem dX8_reaches_29 : decode cX8_reaches 29 = .ok (.lcmp, 1) := by decide +kernel
theorem dX8_reaches_30 : decode cX8_reaches 30 = .ok (.ifCond .le 7, 3) := by decide +kernel
theorem dX8_reaches_33 : decode cX8_reaches 33 = .ok (.iconst 1, 1) := by decide +kernel
theorem dX8_reaches_34 : decode cX8_reaches 34 = .ok (.goto 4, 3) := by decide +kernel
theorem dX8_reaches_37 : decode cX8_reaches 37 = .ok (.iconst 0, 1) := by decide +kernel
theorem dX8_reaches_38 : decode cX8_reaches 38 = .ok (.istore 4, 2) := by decide +kernel
theorem dX8_reaches_40 : decode cX8_reaches 40 = .ok (.iload 4, 2) := by decide +kernel
theorem dX8_reaches_42 : decode cX8_reaches 42 = .ok (.ifCond .eq 24, 3) := by decide +kernel
theorem dX8_reaches_45 : decode cX8_reaches 45 = .ok (.aload_n 0, 1) := by decide +kernel
theorem dX8_reaches_46 : decode cX8_reaches 46 = .ok (.aload_n 0, 1) := by decide +kernel
theorem dX8_reaches_47 : decode cX8_reaches 47 = .ok (.iload_n 1, 1) := by decide +kernel
theorem dX8_reaches_48 : decode cX8_reaches 48 = .ok (.iconst 2, 1) := by decide +kernel
theorem dX8_reaches_49 : decode cX8_reaches 49 = .ok (.invokevirtual 70, 3) := by decide +kernel
theorem dX8_reaches_52 : decode cX8_reaches 52 = .ok (.aload_n 0, 1) := by decide +kernel
theorem dX8_reaches_53 : decode cX8_reaches 53 = .ok (.iload_n 1, 1) := by decide +kernel
theorem dX8_reaches_54 : decode cX8_reaches 54 = .ok (.iconst 4, 1) := by decide +kernel
theorem dX8_reaches_55 : decode cX8_reaches 55 = .ok (.invokevirtual 70, 3) := by decide +kernel
theorem dX8_reaches_58 : decode cX8_reaches 58 = .ok (.i2l, 1) := by decide +kernel
theorem dX8_reaches_59 : decode cX8_reaches 59 = .ok (.iload_n 3, 1) := by decide +kernel
theorem dX8_reaches_60 : decode cX8_reaches 60 = .ok (.iload 5, 2) := by decide +kernel
theorem dX8_reaches_62 : decode cX8_reaches 62 = .ok (.isub, 1) := by decide +kernel
theorem dX8_reaches_63 : decode cX8_reaches 63 = .ok (.invokevirtual 103, 3) := by decide +kernel
theorem dX8_reaches_66 : decode cX8_reaches 66 = .ok (.iinc 5 1, 3) := by decide +kernel
theorem dX8_reaches_69 : decode cX8_reaches 69 = .ok (.goto (-51), 3) := by decide +kernel
theorem dX8_reaches_72 : decode cX8_reaches 72 = .ok (.iload 4, 2) := by decide +kernel
theorem dX8_reaches_74 : decode cX8_reaches 74 = .ok (.ireturn, 1) := by decide +kernel
set_option maxRecDepth 20000 in
theorem ggX8_noPayment_X8_noLoan : GoodIn wsX8_noPayment wsX8_noLoan := goodIn_r _ [6, 7, 8, 9, 10, 5, 11, 1, 12, 13, 14, 15, 16, 17, 18, 19, 20, 21, 22, 23, 24, 25, 26, 27, 28, 29, 30, 31, 32, 33, 34, 35, 36, 37, 38, 39, 40] (by decide +kernel) (by decide +kernel)
set_option maxRecDepth 20000 in
theorem gX8_noPayment_X8_noLoan : GoodIn wsX8_noPayment (wsV RX8 163 RX8 yX8_noLoan wsX8_noLoan) := goodIn_app (goodIn_of _ (by decide +kernel)) ggX8_noPayment_X8_noLoan
set_option maxRecDepth 20000 in
theorem ggX8_noPayment_X8_outside : GoodIn wsX8_noPayment wsX8_outside := goodIn_r _ [11, 1, 12, 13, 14, 15, 16, 17, 18, 19, 20, 21, 22, 23, 24, 25, 26, 27, 28, 29, 30, 31, 32, 33, 34, 35, 36, 37, 38, 39, 40] (by decide +kernel) (by decide +kernel)
set_option maxRecDepth 20000 in
theorem gX8_noPayment_X8_outside : GoodIn wsX8_noPayment (wsV RX8 66 RX8 yX8_outside wsX8_outside) := goodIn_app (goodIn_of _ (by decide +kernel)) ggX8_noPayment_X8_outside
theorem dX8_noPayment_0 : decode cX8_noPayment 0 = .ok (.aload_n 0, 1) := by decide +kernel
theorem dX8_noPayment_1 : decode cX8_noPayment 1 = .ok (.iconst 0, 1) := by decide +kernel
theorem dX8_noPayment_2 : decode cX8_noPayment 2 = .ok (.putfield 56, 3) := by decide +kernel
theorem dX8_noPayment_5 : decode cX8_noPayment 5 = .ok (.aload_n 0, 1) := by decide +kernel
theorem dX8_noPayment_6 : decode cX8_noPayment 6 = .ok (.iload_n 1, 1) := by decide +kernel
theorem dX8_noPayment_7 : decode cX8_noPayment 7 = .ok (.invokevirtual 163, 3) := by decide +kernel
theorem dX8_noPayment_10 : decode cX8_noPayment 10 = .ok (.ifCond .ne 15, 3) := by decide +kernel
theorem dX8_noPayment_13 : decode cX8_noPayment 13 = .ok (.aload_n 0, 1) := by decide +kernel
theorem dX8_noPayment_14 : decode cX8_noPayment 14 = .ok (.iload_n 2, 1) := by decide +kernel
theorem dX8_noPayment_15 : decode cX8_noPayment 15 = .ok (.iconst 1, 1) := by decide +kernel
theorem dX8_noPayment_16 : decode cX8_noPayment 16 = .ok (.bipush 120, 2) := by decide +kernel
theorem dX8_noPayment_18 : decode cX8_noPayment 18 = .ok (.iconst 2, 1) := by decide +kernel
theorem dX8_noPayment_19 : decode cX8_noPayment 19 = .ok (.invokevirtual 66, 3) := by decide +kernel
theorem dX8_noPayment_22 : decode cX8_noPayment 22 = .ok (.ifCond .eq 7, 3) := by decide +kernel
theorem dX8_noPayment_25 : decode cX8_noPayment 25 = .ok (.iconst 1, 1) := by decide +kernel
theorem dX8_noPayment_26 : decode cX8_noPayment 26 = .ok (.goto 4, 3) := by decide +kernel
theorem dX8_noPayment_29 : decode cX8_noPayment 29 = .ok (.iconst 0, 1) := by decide +kernel
theorem dX8_noPayment_30 : decode cX8_noPayment 30 = .ok (.ireturn, 1) := by decide +kernel
set_option maxRecDepth 20000 in
theorem ggX8_interestOfPayment_X8_noPayment : GoodIn wsX8_interestOfPayment wsX8_noPayment := goodIn_r _ [6, 7, 8, 9, 10, 5, 11, 12, 13, 14, 15, 16, 43, 44, 45, 46, 47, 48, 49, 50, 51, 52, 53, 54, 55, 56, 57, 58, 59, 60, 61, 62, 63, 64, 65, 66, 67, 68, 69, 70, 71] (by decide +kernel) (by decide +kernel)
set_option maxRecDepth 20000 in
theorem gX8_interestOfPayment_X8_noPayment : GoodIn wsX8_interestOfPayment (wsV RX8 324 RX8 yX8_noPayment wsX8_noPayment) := goodIn_app (goodIn_of _ (by decide +kernel)) ggX8_interestOfPayment_X8_noPayment
set_option maxRecDepth 20000 in
theorem ggX8_interestOfPayment_X8_reaches : GoodIn wsX8_interestOfPayment wsX8_reaches := goodIn_r _ [20, 21, 22, 23, 24, 5, 25, 26, 27, 28, 29, 12, 30, 31, 32, 33, 34, 35, 36, 37, 1, 38, 39, 40, 41, 42, 43, 44, 45, 46, 47, 48, 49, 50, 51, 52, 53, 54, 55, 56, 57, 58, 59, 60, 61, 62, 63, 64, 65, 66, 67, 68, 69, 70, 71] (by decide +kernel) (by decide +kernel)
set_option maxRecDepth 20000 in
theorem gX8_interestOfPayment_X8_reaches : GoodIn wsX8_interestOfPayment (wsV RX8 327 RX8 yX8_reaches wsX8_reaches) := goodIn_app (goodIn_of _ (by decide +kernel)) ggX8_interestOfPayment_X8_reaches
theorem dX8_interestOfPayment_0 : decode cX8_interestOfPayment 0 = .ok (.aload_n 0, 1) := by decide +kernel
theorem dX8_interestOfPayment_1 : decode cX8_interestOfPayment 1 = .ok (.iload_n 1, 1) := by decide +kernel
theorem dX8_interestOfPayment_2 : decode cX8_interestOfPayment 2 = .ok (.iload_n 2, 1) := by decide +kernel
theorem dX8_interestOfPayment_3 : decode cX8_interestOfPayment 3 = .ok (.invokevirtual 324, 3) := by decide +kernel
theorem dX8_interestOfPayment_6 : decode cX8_interestOfPayment 6 = .ok (.ifCond .eq 5, 3) := by decide +kernel
theorem dX8_interestOfPayment_9 : decode cX8_interestOfPayment 9 = .ok (.iconst 0, 1) := by decide +kernel
theorem dX8_interestOfPayment_10 : decode cX8_interestOfPayment 10 = .ok (.ireturn, 1) := by decide +kernel
theorem dX8_interestOfPayment_11 : decode cX8_interestOfPayment 11 = .ok (.aload_n 0, 1) := by decide +kernel
theorem dX8_interestOfPayment_12 : decode cX8_interestOfPayment 12 = .ok (.iload_n 1, 1) := by decide +kernel
theorem dX8_interestOfPayment_13 : decode cX8_interestOfPayment 13 = .ok (.iload_n 2, 1) := by decide +kernel
theorem dX8_interestOfPayment_14 : decode cX8_interestOfPayment 14 = .ok (.invokevirtual 327, 3) := by decide +kernel
theorem dX8_interestOfPayment_17 : decode cX8_interestOfPayment 17 = .ok (.ifCond .eq 11, 3) := by decide +kernel
theorem dX8_interestOfPayment_20 : decode cX8_interestOfPayment 20 = .ok (.aload_n 0, 1) := by decide +kernel
theorem dX8_interestOfPayment_21 : decode cX8_interestOfPayment 21 = .ok (.getfield 94, 3) := by decide +kernel
theorem dX8_interestOfPayment_24 : decode cX8_interestOfPayment 24 = .ok (.l2i, 1) := by decide +kernel
theorem dX8_interestOfPayment_25 : decode cX8_interestOfPayment 25 = .ok (.goto 4, 3) := by decide +kernel
theorem dX8_interestOfPayment_28 : decode cX8_interestOfPayment 28 = .ok (.iconst (-1), 1) := by decide +kernel
theorem dX8_interestOfPayment_29 : decode cX8_interestOfPayment 29 = .ok (.ireturn, 1) := by decide +kernel
set_option maxRecDepth 20000 in
theorem ggX8_amountOfPayment_X8_noPayment : GoodIn wsX8_amountOfPayment wsX8_noPayment := goodIn_r _ [6, 7, 8, 9, 10, 5, 11, 12, 13, 14, 15, 16, 43, 44, 45, 46, 47, 48, 49, 50, 51, 52, 53, 54, 55, 56, 57, 58, 59, 60, 61, 62, 63, 64, 65, 66, 67, 68, 69, 70, 71] (by decide +kernel) (by decide +kernel)
set_option maxRecDepth 20000 in
theorem gX8_amountOfPayment_X8_noPayment : GoodIn wsX8_amountOfPayment (wsV RX8 324 RX8 yX8_noPayment wsX8_noPayment) := goodIn_app (goodIn_of _ (by decide +kernel)) ggX8_amountOfPayment_X8_noPayment
set_option maxRecDepth 20000 in
theorem ggX8_amountOfPayment_X8_reaches : GoodIn wsX8_amountOfPayment wsX8_reaches := goodIn_r _ [20, 21, 22, 23, 24, 5, 25, 26, 27, 28, 29, 12, 30, 31, 32, 33, 34, 35, 36, 1, 37, 38, 39, 40, 41, 42, 43, 44, 45, 46, 47, 48, 49, 50, 51, 52, 53, 54, 55, 56, 57, 58, 59, 60, 61, 62, 63, 64, 65, 66, 67, 68, 69, 70, 71] (by decide +kernel) (by decide +kernel)
set_option maxRecDepth 20000 in
theorem gX8_amountOfPayment_X8_reaches : GoodIn wsX8_amountOfPayment (wsV RX8 327 RX8 yX8_reaches wsX8_reaches) := goodIn_app (goodIn_of _ (by decide +kernel)) ggX8_amountOfPayment_X8_reaches
theorem dX8_amountOfPayment_0 : decode cX8_amountOfPayment 0 = .ok (.aload_n 0, 1) := by decide +kernel
theorem dX8_amountOfPayment_1 : decode cX8_amountOfPayment 1 = .ok (.iload_n 1, 1) := by decide +kernel
theorem dX8_amountOfPayment_2 : decode cX8_amountOfPayment 2 = .ok (.iload_n 2, 1) := by decide +kernel
theorem dX8_amountOfPayment_3 : decode cX8_amountOfPayment 3 = .ok (.invokevirtual 324, 3) := by decide +kernel
theorem dX8_amountOfPayment_6 : decode cX8_amountOfPayment 6 = .ok (.ifCond .eq 5, 3) := by decide +kernel
theorem dX8_amountOfPayment_9 : decode cX8_amountOfPayment 9 = .ok (.iconst 0, 1) := by decide +kernel
theorem dX8_amountOfPayment_10 : decode cX8_amountOfPayment 10 = .ok (.ireturn, 1) := by decide +kernel
theorem dX8_amountOfPayment_11 : decode cX8_amountOfPayment 11 = .ok (.aload_n 0, 1) := by decide +kernel
theorem dX8_amountOfPayment_12 : decode cX8_amountOfPayment 12 = .ok (.iload_n 1, 1) := by decide +kernel
theorem dX8_amountOfPayment_13 : decode cX8_amountOfPayment 13 = .ok (.iload_n 2, 1) := by decide +kernel
theorem dX8_amountOfPayment_14 : decode cX8_amountOfPayment 14 = .ok (.invokevirtual 327, 3) := by decide +kernel
theorem dX8_amountOfPayment_17 : decode cX8_amountOfPayment 17 = .ok (.ifCond .eq 11, 3) := by decide +kernel
theorem dX8_amountOfPayment_20 : decode cX8_amountOfPayment 20 = .ok (.aload_n 0, 1) := by decide +kernel
theorem dX8_amountOfPayment_21 : decode cX8_amountOfPayment 21 = .ok (.getfield 91, 3) := by decide +kernel
theorem dX8_amountOfPayment_24 : decode cX8_amountOfPayment 24 = .ok (.l2i, 1) := by decide +kernel
theorem dX8_amountOfPayment_25 : decode cX8_amountOfPayment 25 = .ok (.goto 4, 3) := by decide +kernel
theorem dX8_amountOfPayment_28 : decode cX8_amountOfPayment 28 = .ok (.iconst (-1), 1) := by decide +kernel
theorem dX8_amountOfPayment_29 : decode cX8_amountOfPayment 29 = .ok (.ireturn, 1) := by decide +kernel
set_option maxRecDepth 20000 in
theorem ggX8_paymentsTo_X8_noLoan : GoodIn wsX8_paymentsTo wsX8_noLoan := goodIn_r _ [8, 9, 10, 11, 12, 7, 13, 1, 36, 37, 38, 39, 40, 41, 42, 43, 44, 45, 46, 47, 48, 49, 50, 51, 52, 53, 54, 55, 56, 57, 58, 59, 60, 61, 62, 63, 64] (by decide +kernel) (by decide +kernel)
set_option maxRecDepth 20000 in
theorem gX8_paymentsTo_X8_noLoan : GoodIn wsX8_paymentsTo (wsV RX8 163 RX8 yX8_noLoan wsX8_noLoan) := goodIn_app (goodIn_of _ (by decide +kernel)) ggX8_paymentsTo_X8_noLoan
set_option maxRecDepth 20000 in
theorem ggX8_paymentsTo_X8_outside : GoodIn wsX8_paymentsTo wsX8_outside := goodIn_r _ [13, 1, 36, 37, 38, 39, 40, 41, 42, 43, 44, 45, 46, 47, 48, 49, 50, 51, 52, 53, 54, 55, 56, 57, 58, 59, 60, 61, 62, 63, 64] (by decide +kernel) (by decide +kernel)
set_option maxRecDepth 20000 in
theorem gX8_paymentsTo_X8_outside : GoodIn wsX8_paymentsTo (wsV RX8 66 RX8 yX8_outside wsX8_outside) := goodIn_app (goodIn_of _ (by decide +kernel)) ggX8_paymentsTo_X8_outside
set_option maxRecDepth 20000 in
theorem ggX8_paymentsTo_X8_beginWith : GoodIn wsX8_paymentsTo wsX8_beginWith := goodIn_r _ [17, 18, 19, 20, 7, 21, 9, 22, 23, 24, 25, 3, 26, 27, 28, 29, 30, 36, 37, 38, 39, 40, 41, 42, 43, 44, 45, 46, 47, 48, 49, 50, 51, 52, 53, 54, 55, 56, 57, 58, 59, 60, 61, 62, 63, 64] (by decide +kernel) (by decide +kernel)
set_option maxRecDepth 20000 in
theorem gX8_paymentsTo_X8_beginWith : GoodIn wsX8_paymentsTo (wsV RX8 107 RX8 yX8_beginWith wsX8_beginWith) := goodIn_app (goodIn_of _ (by decide +kernel)) ggX8_paymentsTo_X8_beginWith
set_option maxRecDepth 20000 in
theorem ggX8_paymentsTo_X8_of : GoodIn wsX8_paymentsTo wsX8_of := goodIn_r _ [21, 9, 36, 37, 38, 39, 40, 41, 42, 43, 44, 45, 46, 47, 48, 49, 50, 51, 52, 53, 54, 55, 56, 57, 58, 59, 60, 61, 62, 63, 64] (by decide +kernel) (by decide +kernel)
set_option maxRecDepth 20000 in
theorem gX8_paymentsTo_X8_of : GoodIn wsX8_paymentsTo (wsV RX8 70 RX8 yX8_of wsX8_of) := goodIn_app (goodIn_of _ (by decide +kernel)) ggX8_paymentsTo_X8_of
set_option maxRecDepth 20000 in
theorem ggX8_paymentsTo_X8_step : GoodIn wsX8_paymentsTo wsX8_step := goodIn_r _ [34, 3, 26, 35, 30, 29, 28, 27, 36, 37, 38, 39, 40, 41, 42, 43, 44, 45, 46, 47, 48, 49, 50, 51, 52, 53, 54, 55, 56, 57, 58, 59, 60, 61, 62, 63, 64] (by decide +kernel) (by decide +kernel)
set_option maxRecDepth 20000 in
theorem gX8_paymentsTo_X8_step : GoodIn wsX8_paymentsTo (wsV RX8 103 RX8 yX8_step wsX8_step) := goodIn_app (goodIn_of _ (by decide +kernel)) ggX8_paymentsTo_X8_step
theorem dX8_paymentsTo_0 : decode cX8_paymentsTo 0 = .ok (.aload_n 0, 1) := by decide +kernel
theorem dX8_paymentsTo_1 : decode cX8_paymentsTo 1 = .ok (.iconst 0, 1) := by decide +kernel
theorem dX8_paymentsTo_2 : decode cX8_paymentsTo 2 = .ok (.putfield 56, 3) := by decide +kernel
theorem dX8_paymentsTo_5 : decode cX8_paymentsTo 5 = .ok (.aload_n 0, 1) := by decide +kernel
theorem dX8_paymentsTo_6 : decode cX8_paymentsTo 6 = .ok (.iload_n 1, 1) := by decide +kernel
theorem dX8_paymentsTo_7 : decode cX8_paymentsTo 7 = .ok (.invokevirtual 163, 3) := by decide +kernel
theorem dX8_paymentsTo_10 : decode cX8_paymentsTo 10 = .ok (.ifCond .ne 15, 3) := by decide +kernel
theorem dX8_paymentsTo_13 : decode cX8_paymentsTo 13 = .ok (.aload_n 0, 1) := by decide +kernel
theorem dX8_paymentsTo_14 : decode cX8_paymentsTo 14 = .ok (.iload_n 2, 1) := by decide +kernel
theorem dX8_paymentsTo_15 : decode cX8_paymentsTo 15 = .ok (.iconst 0, 1) := by decide +kernel
theorem dX8_paymentsTo_16 : decode cX8_paymentsTo 16 = .ok (.ldc 154, 2) := by decide +kernel
theorem dX8_paymentsTo_18 : decode cX8_paymentsTo 18 = .ok (.iconst 2, 1) := by decide +kernel
theorem dX8_paymentsTo_19 : decode cX8_paymentsTo 19 = .ok (.invokevirtual 66, 3) := by decide +kernel
theorem dX8_paymentsTo_22 : decode cX8_paymentsTo 22 = .ok (.ifCond .eq 5, 3) := by decide +kernel
theorem dX8_paymentsTo_25 : decode cX8_paymentsTo 25 = .ok (.iconst 0, 1) := by decide +kernel
theorem dX8_paymentsTo_26 : decode cX8_paymentsTo 26 = .ok (.ireturn, 1) := by decide +kernel
theorem dX8_paymentsTo_27 : decode cX8_paymentsTo 27 = .ok (.aload_n 0, 1) := by decide +kernel
theorem dX8_paymentsTo_28 : decode cX8_paymentsTo 28 = .ok (.iload_n 1, 1) := by decide +kernel
theorem dX8_paymentsTo_29 : decode cX8_paymentsTo 29 = .ok (.invokevirtual 107, 3) := by decide +kernel
theorem dX8_paymentsTo_32 : decode cX8_paymentsTo 32 = .ok (.iconst 0, 1) := by decide +kernel
theorem dX8_paymentsTo_33 : decode cX8_paymentsTo 33 = .ok (.istore_n 3, 1) := by decide +kernel
theorem dX8_paymentsTo_34 : decode cX8_paymentsTo 34 = .ok (.aload_n 0, 1) := by decide +kernel
theorem dX8_paymentsTo_35 : decode cX8_paymentsTo 35 = .ok (.getfield 78, 3) := by decide +kernel
theorem dX8_paymentsTo_38 : decode cX8_paymentsTo 38 = .ok (.iload_n 2, 1) := by decide +kernel
theorem dX8_paymentsTo_39 : decode cX8_paymentsTo 39 = .ok (.i2l, 1) := by decide +kernel
theorem dX8_paymentsTo_40 : decode cX8_paymentsTo 40 = .ok (.lcmp, 1) := by decide +kernel
theorem dX8_paymentsTo_41 : decode cX8_paymentsTo 41 = .ok (.ifCond .le 34, 3) := by decide +kernel
theorem dX8_paymentsTo_44 : decode cX8_paymentsTo 44 = .ok (.aload_n 0, 1) := by decide +kernel
theorem dX8_paymentsTo_45 : decode cX8_paymentsTo 45 = .ok (.aload_n 0, 1) := by decide +kernel
theorem dX8_paymentsTo_46 : decode cX8_paymentsTo 46 = .ok (.iload_n 1, 1) := by decide +kernel
theorem dX8_paymentsTo_47 : decode cX8_paymentsTo 47 = .ok (.iconst 2, 1) := by decide +kernel
theorem dX8_paymentsTo_48 : decode cX8_paymentsTo 48 = .ok (.invokevirtual 70, 3) := by decide +kernel
theorem dX8_paymentsTo_51 : decode cX8_paymentsTo 51 = .ok (.aload_n 0, 1) := by decide +kernel
theorem dX8_paymentsTo_52 : decode cX8_paymentsTo 52 = .ok (.iload_n 1, 1) := by decide +kernel
theorem dX8_paymentsTo_53 : decode cX8_paymentsTo 53 = .ok (.iconst 4, 1) := by decide +kernel
theorem dX8_paymentsTo_54 : decode cX8_paymentsTo 54 = .ok (.invokevirtual 70, 3) := by decide +kernel
theorem dX8_paymentsTo_57 : decode cX8_paymentsTo 57 = .ok (.i2l, 1) := by decide +kernel
theorem dX8_paymentsTo_58 : decode cX8_paymentsTo 58 = .ok (.aload_n 0, 1) := by decide +kernel
theorem dX8_paymentsTo_59 : decode cX8_paymentsTo 59 = .ok (.iload_n 1, 1) := by decide +kernel
theorem dX8_paymentsTo_60 : decode cX8_paymentsTo 60 = .ok (.iconst 3, 1) := by decide +kernel
theorem dX8_paymentsTo_61 : decode cX8_paymentsTo 61 = .ok (.invokevirtual 70, 3) := by decide +kernel
theorem dX8_paymentsTo_64 : decode cX8_paymentsTo 64 = .ok (.iload_n 3, 1) := by decide +kernel
theorem dX8_paymentsTo_65 : decode cX8_paymentsTo 65 = .ok (.isub, 1) := by decide +kernel
theorem dX8_paymentsTo_66 : decode cX8_paymentsTo 66 = .ok (.invokevirtual 103, 3) := by decide +kernel
theorem dX8_paymentsTo_69 : decode cX8_paymentsTo 69 = .ok (.iinc 3 1, 3) := by decide +kernel
theorem dX8_paymentsTo_72 : decode cX8_paymentsTo 72 = .ok (.goto (-38), 3) := by decide +kernel
theorem dX8_paymentsTo_75 : decode cX8_paymentsTo 75 = .ok (.iload_n 3, 1) := by decide +kernel
theorem dX8_paymentsTo_76 : decode cX8_paymentsTo 76 = .ok (.ireturn, 1) := by decide +kernel
set_option maxRecDepth 20000 in
theorem ggX8_isCheaper_X8_noLoan : GoodIn wsX8_isCheaper wsX8_noLoan := goodIn_r _ [8, 2, 9, 10, 11, 7, 12, 1, 80, 81, 82, 83, 84, 85, 86, 87, 88, 89, 90, 91, 92, 93, 94, 95, 96, 97, 98, 99, 100, 101, 102, 103, 104, 105, 106, 107, 108] (by decide +kernel) (by decide +kernel)
set_option maxRecDepth 20000 in
theorem gX8_isCheaper_X8_noLoan : GoodIn wsX8_isCheaper (wsV RX8 163 RX8 yX8_noLoan wsX8_noLoan) := goodIn_app (goodIn_of _ (by decide +kernel)) ggX8_isCheaper_X8_noLoan
set_option maxRecDepth 20000 in
theorem ggX8_isCheaper_X8_badTerms : GoodIn wsX8_isCheaper wsX8_badTerms := goodIn_r _ [16, 9, 10, 11, 7, 12, 1, 80, 81, 82, 83, 84, 85, 86, 87, 88, 89, 90, 91, 92, 93, 94, 95, 96, 97, 98, 99, 100, 101, 102, 103, 104, 105, 106, 107, 108] (by decide +kernel) (by decide +kernel)
set_option maxRecDepth 20000 in
theorem gX8_isCheaper_X8_badTerms : GoodIn wsX8_isCheaper (wsV RX8 183 RX8 yX8_badTerms wsX8_badTerms) := goodIn_app (goodIn_of _ (by decide +kernel)) ggX8_isCheaper_X8_badTerms
set_option maxRecDepth 20000 in
theorem ggX8_isCheaper_X8_isRunning : GoodIn wsX8_isCheaper wsX8_isRunning := goodIn_r _ [20, 21, 22, 23, 7, 24, 2, 80, 81, 82, 83, 84, 85, 86, 87, 88, 89, 90, 91, 92, 93, 94, 95, 96, 97, 98, 99, 100, 101, 102, 103, 104, 105, 106, 107, 108] (by decide +kernel) (by decide +kernel)
set_option maxRecDepth 20000 in
theorem gX8_isCheaper_X8_isRunning : GoodIn wsX8_isCheaper (wsV RX8 130 RX8 yX8_isRunning wsX8_isRunning) := goodIn_app (goodIn_of _ (by decide +kernel)) ggX8_isCheaper_X8_isRunning
set_option maxRecDepth 20000 in
theorem ggX8_isCheaper_X8_copy : GoodIn wsX8_isCheaper wsX8_copy := goodIn_r _ [27] (by decide +kernel) (by decide +kernel)
set_option maxRecDepth 20000 in
theorem gX8_isCheaper_X8_copy : GoodIn wsX8_isCheaper (va_wsS RX8 62 yX8_copy wsX8_copy) := goodIn_app (goodIn_of _ (by decide +kernel)) ggX8_isCheaper_X8_copy
set_option maxRecDepth 20000 in
theorem ggX8_isCheaper_X8_costAhead : GoodIn wsX8_isCheaper wsX8_costAhead := goodIn_r _ [31, 32, 33, 34, 35, 7, 36, 37, 38, 39, 40, 21, 22, 23, 24, 2, 41, 42, 43, 44, 45, 46, 47, 48, 49, 50, 51, 52, 53, 54, 55, 56, 57, 58, 80, 81, 82, 83, 84, 85, 86, 87, 88, 89, 90, 91, 92, 93, 94, 95, 96, 97, 98, 99, 100, 101, 102, 103, 104, 105, 106, 107, 108] (by decide +kernel) (by decide +kernel)
set_option maxRecDepth 20000 in
theorem gX8_isCheaper_X8_costAhead : GoodIn wsX8_isCheaper (wsV RX8 321 RX8 yX8_costAhead wsX8_costAhead) := goodIn_app (goodIn_of _ (by decide +kernel)) ggX8_isCheaper_X8_costAhead
set_option maxRecDepth 20000 in
theorem ggX8_isCheaper_X8_setTerms : GoodIn wsX8_isCheaper wsX8_setTerms := goodIn_r _ [62, 63, 64, 65, 7, 66, 2, 67, 68, 69, 70, 21, 22, 23, 24, 71, 72, 73, 74, 48, 75, 37, 38, 39, 40, 41, 42, 43, 44, 45, 46, 47, 32, 49, 54, 55, 56, 57, 58, 76, 77, 78, 79, 50, 51, 52, 53, 80, 81, 82, 83, 84, 85, 86, 87, 88, 89, 90, 91, 92, 93, 94, 95, 96, 97, 98, 99, 100, 101, 102, 103, 104, 105, 106, 107, 108] (by decide +kernel) (by decide +kernel)
set_option maxRecDepth 20000 in
theorem gX8_isCheaper_X8_setTerms : GoodIn wsX8_isCheaper (wsV RX8 186 RX8 yX8_setTerms wsX8_setTerms) := goodIn_app (goodIn_of _ (by decide +kernel)) ggX8_isCheaper_X8_setTerms
theorem dX8_isCheaper_0 : decode cX8_isCheaper 0 = .ok (.aload_n 0, 1) := by decide +kernel
theorem dX8_isCheaper_1 : decode cX8_isCheaper 1 = .ok (.iconst 0, 1) := by decide +kernel
theorem dX8_isCheaper_2 : decode cX8_isCheaper 2 = .ok (.putfield 56, 3) := by decide +kernel
theorem dX8_isCheaper_5 : decode cX8_isCheaper 5 = .ok (.aload_n 0, 1) := by decide +kernel
theorem dX8_isCheaper_6 : decode cX8_isCheaper 6 = .ok (.iload_n 1, 1) := by decide +kernel
theorem dX8_isCheaper_7 : decode cX8_isCheaper 7 = .ok (.invokevirtual 163, 3) := by decide +kernel
theorem dX8_isCheaper_10 : decode cX8_isCheaper 10 = .ok (.ifCond .ne 20, 3) := by decide +kernel
theorem dX8_isCheaper_13 : decode cX8_isCheaper 13 = .ok (.aload_n 0, 1) := by decide +kernel
theorem dX8_isCheaper_14 : decode cX8_isCheaper 14 = .ok (.iload_n 2, 1) := by decide +kernel
theorem dX8_isCheaper_15 : decode cX8_isCheaper 15 = .ok (.iload_n 3, 1) := by decide +kernel
theorem dX8_isCheaper_16 : decode cX8_isCheaper 16 = .ok (.invokevirtual 183, 3) := by decide +kernel
theorem dX8_isCheaper_19 : decode cX8_isCheaper 19 = .ok (.ifCond .ne 11, 3) := by decide +kernel
theorem dX8_isCheaper_22 : decode cX8_isCheaper 22 = .ok (.aload_n 0, 1) := by decide +kernel
theorem dX8_isCheaper_23 : decode cX8_isCheaper 23 = .ok (.iload_n 1, 1) := by decide +kernel
theorem dX8_isCheaper_24 : decode cX8_isCheaper 24 = .ok (.invokevirtual 130, 3) := by decide +kernel
theorem dX8_isCheaper_27 : decode cX8_isCheaper 27 = .ok (.ifCond .ne 5, 3) := by decide +kernel
theorem dX8_isCheaper_30 : decode cX8_isCheaper 30 = .ok (.iconst 0, 1) := by decide +kernel
theorem dX8_isCheaper_31 : decode cX8_isCheaper 31 = .ok (.ireturn, 1) := by decide +kernel
theorem dX8_isCheaper_32 : decode cX8_isCheaper 32 = .ok (.aload_n 0, 1) := by decide +kernel
theorem dX8_isCheaper_33 : decode cX8_isCheaper 33 = .ok (.getfield 9, 3) := by decide +kernel
theorem dX8_isCheaper_36 : decode cX8_isCheaper 36 = .ok (.aload_n 0, 1) := by decide +kernel
theorem dX8_isCheaper_37 : decode cX8_isCheaper 37 = .ok (.getfield 24, 3) := by decide +kernel
theorem dX8_isCheaper_40 : decode cX8_isCheaper 40 = .ok (.invokestatic 62, 3) := by decide +kernel
theorem dX8_isCheaper_43 : decode cX8_isCheaper 43 = .ok (.aload_n 0, 1) := by decide +kernel
theorem dX8_isCheaper_44 : decode cX8_isCheaper 44 = .ok (.iload_n 1, 1) := by decide +kernel
theorem dX8_isCheaper_45 : decode cX8_isCheaper 45 = .ok (.invokevirtual 321, 3) := by decide +kernel
theorem dX8_isCheaper_48 : decode cX8_isCheaper 48 = .ok (.istore 4, 2) := by decide +kernel
theorem dX8_isCheaper_50 : decode cX8_isCheaper 50 = .ok (.aload_n 0, 1) := by decide +kernel
theorem dX8_isCheaper_51 : decode cX8_isCheaper 51 = .ok (.iload_n 1, 1) := by decide +kernel
theorem dX8_isCheaper_52 : decode cX8_isCheaper 52 = .ok (.iload_n 2, 1) := by decide +kernel
theorem dX8_isCheaper_53 : decode cX8_isCheaper 53 = .ok (.iload_n 3, 1) := by decide +kernel
theorem dX8_isCheaper_54 : decode cX8_isCheaper 54 = .ok (.invokevirtual 186, 3) := by decide +kernel
theorem dX8_isCheaper_57 : decode cX8_isCheaper 57 = .ok (.aload_n 0, 1) := by decide +kernel
theorem dX8_isCheaper_58 : decode cX8_isCheaper 58 = .ok (.iload_n 1, 1) := by decide +kernel
theorem dX8_isCheaper_59 : decode cX8_isCheaper 59 = .ok (.invokevirtual 321, 3) := by decide +kernel
theorem dX8_isCheaper_62 : decode cX8_isCheaper 62 = .ok (.istore 5, 2) := by decide +kernel
theorem dX8_isCheaper_64 : decode cX8_isCheaper 64 = .ok (.aload_n 0, 1) := by decide +kernel
theorem dX8_isCheaper_65 : decode cX8_isCheaper 65 = .ok (.getfield 24, 3) := by decide +kernel
theorem dX8_isCheaper_68 : decode cX8_isCheaper 68 = .ok (.aload_n 0, 1) := by decide +kernel
theorem dX8_isCheaper_69 : decode cX8_isCheaper 69 = .ok (.getfield 9, 3) := by decide +kernel
theorem dX8_isCheaper_72 : decode cX8_isCheaper 72 = .ok (.invokestatic 62, 3) := by decide +kernel
theorem dX8_isCheaper_75 : decode cX8_isCheaper 75 = .ok (.iload 5, 2) := by decide +kernel
theorem dX8_isCheaper_77 : decode cX8_isCheaper 77 = .ok (.iload 4, 2) := by decide +kernel
theorem dX8_isCheaper_79 : decode cX8_isCheaper 79 = .ok (.if_icmp .ge 7, 3) := by decide +kernel
theorem dX8_isCheaper_82 : decode cX8_isCheaper 82 = .ok (.iconst 1, 1) := by decide +kernel
theorem dX8_isCheaper_83 : decode cX8_isCheaper 83 = .ok (.goto 4, 3) := by decide +kernel
theorem dX8_isCheaper_86 : decode cX8_isCheaper 86 = .ok (.iconst 0, 1) := by decide +kernel
theorem dX8_isCheaper_87 : decode cX8_isCheaper 87 = .ok (.ireturn, 1) := by decide +kernel
set_option maxRecDepth 20000 in
theorem ggX8_skipsWithin_X8_noLoan : GoodIn wsX8_skipsWithin wsX8_noLoan := goodIn_r _ [9, 3, 10, 11, 12, 8, 13, 1, 82, 83, 84, 85, 86, 87, 88, 89, 90, 91, 92, 93, 94, 95, 96, 97, 98, 99, 100, 101, 102, 103, 104, 105, 106, 107, 108, 109, 110] (by decide +kernel) (by decide +kernel)
set_option maxRecDepth 20000 in
theorem gX8_skipsWithin_X8_noLoan : GoodIn wsX8_skipsWithin (wsV RX8 163 RX8 yX8_noLoan wsX8_noLoan) := goodIn_app (goodIn_of _ (by decide +kernel)) ggX8_skipsWithin_X8_noLoan
set_option maxRecDepth 20000 in
theorem ggX8_skipsWithin_X8_outside : GoodIn wsX8_skipsWithin wsX8_outside := goodIn_r _ [13, 1, 82, 83, 84, 85, 86, 87, 88, 89, 90, 91, 92, 93, 94, 95, 96, 97, 98, 99, 100, 101, 102, 103, 104, 105, 106, 107, 108, 109, 110] (by decide +kernel) (by decide +kernel)
set_option maxRecDepth 20000 in
theorem gX8_skipsWithin_X8_outside : GoodIn wsX8_skipsWithin (wsV RX8 66 RX8 yX8_outside wsX8_outside) := goodIn_app (goodIn_of _ (by decide +kernel)) ggX8_skipsWithin_X8_outside
set_option maxRecDepth 20000 in
theorem ggX8_skipsWithin_X8_copy : GoodIn wsX8_skipsWithin wsX8_copy := goodIn_r _ [16] (by decide +kernel) (by decide +kernel)
set_option maxRecDepth 20000 in
theorem gX8_skipsWithin_X8_copy : GoodIn wsX8_skipsWithin (va_wsS RX8 62 yX8_copy wsX8_copy) := goodIn_app (goodIn_of _ (by decide +kernel)) ggX8_skipsWithin_X8_copy
set_option maxRecDepth 20000 in
theorem ggX8_skipsWithin_X8_cannotSkip : GoodIn wsX8_skipsWithin wsX8_cannotSkip := goodIn_r _ [20, 21, 22, 23, 24, 25, 8, 26, 27, 28, 29, 30, 3, 31, 32, 33, 34, 35, 36, 37, 38, 39, 40, 41, 42, 43, 44, 45, 46, 47, 48, 49, 50, 51, 52, 82, 83, 84, 85, 86, 87, 88, 89, 90, 91, 92, 93, 94, 95, 96, 97, 98, 99, 100, 101, 102, 103, 104, 105, 106, 107, 108, 109, 110] (by decide +kernel) (by decide +kernel)
set_option maxRecDepth 20000 in
theorem gX8_skipsWithin_X8_cannotSkip : GoodIn wsX8_skipsWithin (wsV RX8 170 RX8 yX8_cannotSkip wsX8_cannotSkip) := goodIn_app (goodIn_of _ (by decide +kernel)) ggX8_skipsWithin_X8_cannotSkip
set_option maxRecDepth 20000 in
theorem ggX8_skipsWithin_X8_skip : GoodIn wsX8_skipsWithin wsX8_skip := goodIn_r _ [56, 21, 44, 31, 32, 33, 8, 34, 35, 36, 37, 38, 27, 28, 29, 30, 3, 39, 40, 41, 42, 43, 45, 46, 47, 48, 49, 50, 51, 52, 57, 58, 59, 60, 61, 62, 63, 64, 65, 66, 67, 68, 69, 70, 71, 72, 73, 74, 75, 76, 77, 78, 79, 80, 81, 82, 83, 84, 85, 86, 87, 88, 89, 90, 91, 92, 93, 94, 95, 96, 97, 98, 99, 100, 101, 102, 103, 104, 105, 106, 107, 108, 109, 110] (by decide +kernel) (by decide +kernel)
set_option maxRecDepth 20000 in
theorem gX8_skipsWithin_X8_skip : GoodIn wsX8_skipsWithin (wsV RX8 52 RX8 yX8_skip wsX8_skip) := goodIn_app (goodIn_of _ (by decide +kernel)) ggX8_skipsWithin_X8_skip
set_option maxRecDepth 20000 in
theorem ggX8_skipsWithin_X8_of : GoodIn wsX8_skipsWithin wsX8_of := goodIn_r _ [30, 3, 82, 83, 84, 85, 86, 87, 88, 89, 90, 91, 92, 93, 94, 95, 96, 97, 98, 99, 100, 101, 102, 103, 104, 105, 106, 107, 108, 109, 110] (by decide +kernel) (by decide +kernel)
set_option maxRecDepth 20000 in
theorem gX8_skipsWithin_X8_of : GoodIn wsX8_skipsWithin (wsV RX8 70 RX8 yX8_of wsX8_of) := goodIn_app (goodIn_of _ (by decide +kernel)) ggX8_skipsWithin_X8_of
theorem dX8_skipsWithin_0 : decode cX8_skipsWithin 0 = .ok (.aload_n 0, 1) := by decide +kernel
theorem dX8_skipsWithin_1 : decode cX8_skipsWithin 1 = .ok (.iconst 0, 1) := by decide +kernel
theorem dX8_skipsWithin_2 : decode cX8_skipsWithin 2 = .ok (.putfield 56, 3) := by decide +kernel
theorem dX8_skipsWithin_5 : decode cX8_skipsWithin 5 = .ok (.aload_n 0, 1) := by decide +kernel
theorem dX8_skipsWithin_6 : decode cX8_skipsWithin 6 = .ok (.iload_n 1, 1) := by decide +kernel
theorem dX8_skipsWithin_7 : decode cX8_skipsWithin 7 = .ok (.invokevirtual 163, 3) := by decide +kernel
theorem dX8_skipsWithin_10 : decode cX8_skipsWithin 10 = .ok (.ifCond .ne 15, 3) := by decide +kernel
theorem dX8_skipsWithin_13 : decode cX8_skipsWithin 13 = .ok (.aload_n 0, 1) := by decide +kernel
theorem dX8_skipsWithin_14 : decode cX8_skipsWithin 14 = .ok (.iload_n 2, 1) := by decide +kernel
theorem dX8_skipsWithin_15 : decode cX8_skipsWithin 15 = .ok (.iconst 1, 1) := by decide +kernel
theorem dX8_skipsWithin_16 : decode cX8_skipsWithin 16 = .ok (.ldc 154, 2) := by decide +kernel
theorem dX8_skipsWithin_18 : decode cX8_skipsWithin 18 = .ok (.iconst 2, 1) := by decide +kernel
theorem dX8_skipsWithin_19 : decode cX8_skipsWithin 19 = .ok (.invokevirtual 66, 3) := by decide +kernel
theorem dX8_skipsWithin_22 : decode cX8_skipsWithin 22 = .ok (.ifCond .eq 5, 3) := by decide +kernel
theorem dX8_skipsWithin_25 : decode cX8_skipsWithin 25 = .ok (.iconst 0, 1) := by decide +kernel
theorem dX8_skipsWithin_26 : decode cX8_skipsWithin 26 = .ok (.ireturn, 1) := by decide +kernel
theorem dX8_skipsWithin_27 : decode cX8_skipsWithin 27 = .ok (.aload_n 0, 1) := by decide +kernel
theorem dX8_skipsWithin_28 : decode cX8_skipsWithin 28 = .ok (.getfield 9, 3) := by decide +kernel
theorem dX8_skipsWithin_31 : decode cX8_skipsWithin 31 = .ok (.aload_n 0, 1) := by decide +kernel
theorem dX8_skipsWithin_32 : decode cX8_skipsWithin 32 = .ok (.getfield 24, 3) := by decide +kernel
theorem dX8_skipsWithin_35 : decode cX8_skipsWithin 35 = .ok (.invokestatic 62, 3) := by decide +kernel
theorem dX8_skipsWithin_38 : decode cX8_skipsWithin 38 = .ok (.iconst 0, 1) := by decide +kernel
theorem dX8_skipsWithin_39 : decode cX8_skipsWithin 39 = .ok (.istore_n 3, 1) := by decide +kernel
theorem dX8_skipsWithin_40 : decode cX8_skipsWithin 40 = .ok (.iconst 1, 1) := by decide +kernel
theorem dX8_skipsWithin_41 : decode cX8_skipsWithin 41 = .ok (.istore 4, 2) := by decide +kernel
theorem dX8_skipsWithin_43 : decode cX8_skipsWithin 43 = .ok (.iload 4, 2) := by decide +kernel
theorem dX8_skipsWithin_45 : decode cX8_skipsWithin 45 = .ok (.ifCond .eq 56, 3) := by decide +kernel
theorem dX8_skipsWithin_48 : decode cX8_skipsWithin 48 = .ok (.aload_n 0, 1) := by decide +kernel
theorem dX8_skipsWithin_49 : decode cX8_skipsWithin 49 = .ok (.iload_n 1, 1) := by decide +kernel
theorem dX8_skipsWithin_50 : decode cX8_skipsWithin 50 = .ok (.invokevirtual 170, 3) := by decide +kernel
theorem dX8_skipsWithin_53 : decode cX8_skipsWithin 53 = .ok (.ifCond .ne 48, 3) := by decide +kernel
theorem dX8_skipsWithin_56 : decode cX8_skipsWithin 56 = .ok (.aload_n 0, 1) := by decide +kernel
theorem dX8_skipsWithin_57 : decode cX8_skipsWithin 57 = .ok (.iload_n 1, 1) := by decide +kernel
theorem dX8_skipsWithin_58 : decode cX8_skipsWithin 58 = .ok (.invokevirtual 52, 3) := by decide +kernel
theorem dX8_skipsWithin_61 : decode cX8_skipsWithin 61 = .ok (.istore 5, 2) := by decide +kernel
theorem dX8_skipsWithin_63 : decode cX8_skipsWithin 63 = .ok (.iload 5, 2) := by decide +kernel
theorem dX8_skipsWithin_65 : decode cX8_skipsWithin 65 = .ok (.ifCond .lt 17, 3) := by decide +kernel
theorem dX8_skipsWithin_68 : decode cX8_skipsWithin 68 = .ok (.aload_n 0, 1) := by decide +kernel
theorem dX8_skipsWithin_69 : decode cX8_skipsWithin 69 = .ok (.iload_n 1, 1) := by decide +kernel
theorem dX8_skipsWithin_70 : decode cX8_skipsWithin 70 = .ok (.iconst 4, 1) := by decide +kernel
theorem dX8_skipsWithin_71 : decode cX8_skipsWithin 71 = .ok (.invokevirtual 70, 3) := by decide +kernel
theorem dX8_skipsWithin_74 : decode cX8_skipsWithin 74 = .ok (.iload_n 2, 1) := by decide +kernel
theorem dX8_skipsWithin_75 : decode cX8_skipsWithin 75 = .ok (.if_icmp .gt 7, 3) := by decide +kernel
theorem dX8_skipsWithin_78 : decode cX8_skipsWithin 78 = .ok (.iconst 1, 1) := by decide +kernel
theorem dX8_skipsWithin_79 : decode cX8_skipsWithin 79 = .ok (.goto 4, 3) := by decide +kernel
theorem dX8_skipsWithin_82 : decode cX8_skipsWithin 82 = .ok (.iconst 0, 1) := by decide +kernel
theorem dX8_skipsWithin_83 : decode cX8_skipsWithin 83 = .ok (.istore 4, 2) := by decide +kernel
theorem dX8_skipsWithin_85 : decode cX8_skipsWithin 85 = .ok (.iload_n 3, 1) := by decide +kernel
theorem dX8_skipsWithin_86 : decode cX8_skipsWithin 86 = .ok (.iload 4, 2) := by decide +kernel
theorem dX8_skipsWithin_88 : decode cX8_skipsWithin 88 = .ok (.ifCond .eq 7, 3) := by decide +kernel
theorem dX8_skipsWithin_91 : decode cX8_skipsWithin 91 = .ok (.iconst 1, 1) := by decide +kernel
theorem dX8_skipsWithin_92 : decode cX8_skipsWithin 92 = .ok (.goto 4, 3) := by decide +kernel
theorem dX8_skipsWithin_95 : decode cX8_skipsWithin 95 = .ok (.iconst 0, 1) := by decide +kernel
theorem dX8_skipsWithin_96 : decode cX8_skipsWithin 96 = .ok (.iadd, 1) := by decide +kernel
theorem dX8_skipsWithin_97 : decode cX8_skipsWithin 97 = .ok (.istore_n 3, 1) := by decide +kernel
theorem dX8_skipsWithin_98 : decode cX8_skipsWithin 98 = .ok (.goto (-55), 3) := by decide +kernel
theorem dX8_skipsWithin_101 : decode cX8_skipsWithin 101 = .ok (.aload_n 0, 1) := by decide +kernel
theorem dX8_skipsWithin_102 : decode cX8_skipsWithin 102 = .ok (.getfield 24, 3) := by decide +kernel
theorem dX8_skipsWithin_105 : decode cX8_skipsWithin 105 = .ok (.aload_n 0, 1) := by decide +kernel
theorem dX8_skipsWithin_106 : decode cX8_skipsWithin 106 = .ok (.getfield 9, 3) := by decide +kernel
theorem dX8_skipsWithin_109 : decode cX8_skipsWithin 109 = .ok (.invokestatic 62, 3) := by decide +kernel
theorem dX8_skipsWithin_112 : decode cX8_skipsWithin 112 = .ok (.iload_n 3, 1) := by decide +kernel
theorem dX8_skipsWithin_113 : decode cX8_skipsWithin 113 = .ok (.ireturn, 1) := by decide +kernel
set_option maxRecDepth 20000 in
theorem ggX8_totalInterestAhead_X8_isRunning : GoodIn wsX8_totalInterestAhead wsX8_isRunning := goodIn_r _ [7, 8, 9, 10, 6, 11, 2, 43, 44, 45, 46, 47, 48, 49, 50, 51, 52, 53, 54, 55, 56, 57, 58, 59, 60, 61, 62, 63, 64, 65, 66, 67, 68, 69, 70, 71] (by decide +kernel) (by decide +kernel)
set_option maxRecDepth 20000 in
theorem gX8_totalInterestAhead_X8_isRunning : GoodIn wsX8_totalInterestAhead (wsV RX8 130 RX8 yX8_isRunning wsX8_isRunning) := goodIn_app (goodIn_of _ (by decide +kernel)) ggX8_totalInterestAhead_X8_isRunning
set_option maxRecDepth 20000 in
theorem ggX8_totalInterestAhead_X8_costAhead : GoodIn wsX8_totalInterestAhead wsX8_costAhead := goodIn_r _ [15, 16, 17, 18, 19, 6, 20, 21, 22, 23, 24, 8, 9, 10, 11, 2, 25, 26, 27, 28, 29, 30, 31, 32, 33, 34, 35, 36, 37, 38, 39, 40, 41, 42, 43, 44, 45, 46, 47, 48, 49, 50, 51, 52, 53, 54, 55, 56, 57, 58, 59, 60, 61, 62, 63, 64, 65, 66, 67, 68, 69, 70, 71] (by decide +kernel) (by decide +kernel)
set_option maxRecDepth 20000 in
theorem gX8_totalInterestAhead_X8_costAhead : GoodIn wsX8_totalInterestAhead (wsV RX8 321 RX8 yX8_costAhead wsX8_costAhead) := goodIn_app (goodIn_of _ (by decide +kernel)) ggX8_totalInterestAhead_X8_costAhead
theorem dX8_totalInterestAhead_0 : decode cX8_totalInterestAhead 0 = .ok (.aload_n 0, 1) := by decide +kernel
theorem dX8_totalInterestAhead_1 : decode cX8_totalInterestAhead 1 = .ok (.iconst 0, 1) := by decide +kernel
theorem dX8_totalInterestAhead_2 : decode cX8_totalInterestAhead 2 = .ok (.putfield 56, 3) := by decide +kernel
theorem dX8_totalInterestAhead_5 : decode cX8_totalInterestAhead 5 = .ok (.iconst 0, 1) := by decide +kernel
theorem dX8_totalInterestAhead_6 : decode cX8_totalInterestAhead 6 = .ok (.istore_n 1, 1) := by decide +kernel
theorem dX8_totalInterestAhead_7 : decode cX8_totalInterestAhead 7 = .ok (.iconst 0, 1) := by decide +kernel
theorem dX8_totalInterestAhead_8 : decode cX8_totalInterestAhead 8 = .ok (.istore_n 2, 1) := by decide +kernel
theorem dX8_totalInterestAhead_9 : decode cX8_totalInterestAhead 9 = .ok (.iload_n 2, 1) := by decide +kernel
theorem dX8_totalInterestAhead_10 : decode cX8_totalInterestAhead 10 = .ok (.aload_n 0, 1) := by decide +kernel
theorem dX8_totalInterestAhead_11 : decode cX8_totalInterestAhead 11 = .ok (.getfield 9, 3) := by decide +kernel
theorem dX8_totalInterestAhead_14 : decode cX8_totalInterestAhead 14 = .ok (.iconst 0, 1) := by decide +kernel
theorem dX8_totalInterestAhead_15 : decode cX8_totalInterestAhead 15 = .ok (.iaload, 1) := by decide +kernel
theorem dX8_totalInterestAhead_16 : decode cX8_totalInterestAhead 16 = .ok (.if_icmp .ge 29, 3) := by decide +kernel
theorem dX8_totalInterestAhead_19 : decode cX8_totalInterestAhead 19 = .ok (.iload_n 1, 1) := by decide +kernel
theorem dX8_totalInterestAhead_20 : decode cX8_totalInterestAhead 20 = .ok (.aload_n 0, 1) := by decide +kernel
theorem dX8_totalInterestAhead_21 : decode cX8_totalInterestAhead 21 = .ok (.iload_n 2, 1) := by decide +kernel
theorem dX8_totalInterestAhead_22 : decode cX8_totalInterestAhead 22 = .ok (.invokevirtual 130, 3) := by decide +kernel
theorem dX8_totalInterestAhead_25 : decode cX8_totalInterestAhead 25 = .ok (.ifCond .eq 11, 3) := by decide +kernel
theorem dX8_totalInterestAhead_28 : decode cX8_totalInterestAhead 28 = .ok (.aload_n 0, 1) := by decide +kernel
theorem dX8_totalInterestAhead_29 : decode cX8_totalInterestAhead 29 = .ok (.iload_n 2, 1) := by decide +kernel
theorem dX8_totalInterestAhead_30 : decode cX8_totalInterestAhead 30 = .ok (.invokevirtual 321, 3) := by decide +kernel
theorem dX8_totalInterestAhead_33 : decode cX8_totalInterestAhead 33 = .ok (.goto 4, 3) := by decide +kernel
theorem dX8_totalInterestAhead_36 : decode cX8_totalInterestAhead 36 = .ok (.iconst 0, 1) := by decide +kernel
theorem dX8_totalInterestAhead_37 : decode cX8_totalInterestAhead 37 = .ok (.iadd, 1) := by decide +kernel
theorem dX8_totalInterestAhead_38 : decode cX8_totalInterestAhead 38 = .ok (.istore_n 1, 1) := by decide +kernel
theorem dX8_totalInterestAhead_39 : decode cX8_totalInterestAhead 39 = .ok (.iinc 2 1, 3) := by decide +kernel
theorem dX8_totalInterestAhead_42 : decode cX8_totalInterestAhead 42 = .ok (.goto (-33), 3) := by decide +kernel
theorem dX8_totalInterestAhead_45 : decode cX8_totalInterestAhead 45 = .ok (.iload_n 1, 1) := by decide +kernel
theorem dX8_totalInterestAhead_46 : decode cX8_totalInterestAhead 46 = .ok (.ireturn, 1) := by decide +kernel
set_option maxRecDepth 20000 in
theorem ggX8_smallest_X8_isRunning : GoodIn wsX8_smallest wsX8_isRunning := goodIn_r _ [6, 7, 8, 9, 5, 10, 1, 11, 12, 13, 14, 15, 16, 17, 18, 19, 20, 21, 22, 23, 24, 25, 26, 27, 28, 29, 30, 31, 32, 33, 34, 35, 36, 37, 38, 39] (by decide +kernel) (by decide +kernel)
set_option maxRecDepth 20000 in
theorem gX8_smallest_X8_isRunning : GoodIn wsX8_smallest (wsV RX8 130 RX8 yX8_isRunning wsX8_isRunning) := goodIn_app (goodIn_of _ (by decide +kernel)) ggX8_smallest_X8_isRunning
set_option maxRecDepth 20000 in
theorem ggX8_smallest_X8_of : GoodIn wsX8_smallest wsX8_of := goodIn_r _ [10, 1, 11, 12, 13, 14, 15, 16, 17, 18, 19, 20, 21, 22, 23, 24, 25, 26, 27, 28, 29, 30, 31, 32, 33, 34, 35, 36, 37, 38, 39] (by decide +kernel) (by decide +kernel)
set_option maxRecDepth 20000 in
theorem gX8_smallest_X8_of : GoodIn wsX8_smallest (wsV RX8 70 RX8 yX8_of wsX8_of) := goodIn_app (goodIn_of _ (by decide +kernel)) ggX8_smallest_X8_of
theorem dX8_smallest_0 : decode cX8_smallest 0 = .ok (.iconst (-1), 1) := by decide +kernel
theorem dX8_smallest_1 : decode cX8_smallest 1 = .ok (.istore_n 1, 1) := by decide +kernel
theorem dX8_smallest_2 : decode cX8_smallest 2 = .ok (.iconst 0, 1) := by decide +kernel
theorem dX8_smallest_3 : decode cX8_smallest 3 = .ok (.istore_n 2, 1) := by decide +kernel
theorem dX8_smallest_4 : decode cX8_smallest 4 = .ok (.iload_n 2, 1) := by decide +kernel
theorem dX8_smallest_5 : decode cX8_smallest 5 = .ok (.aload_n 0, 1) := by decide +kernel
theorem dX8_smallest_6 : decode cX8_smallest 6 = .ok (.getfield 9, 3) := by decide +kernel
theorem dX8_smallest_9 : decode cX8_smallest 9 = .ok (.iconst 0, 1) := by decide +kernel
theorem dX8_smallest_10 : decode cX8_smallest 10 = .ok (.iaload, 1) := by decide +kernel
theorem dX8_smallest_11 : decode cX8_smallest 11 = .ok (.if_icmp .ge 43, 3) := by decide +kernel
theorem dX8_smallest_14 : decode cX8_smallest 14 = .ok (.aload_n 0, 1) := by decide +kernel
theorem dX8_smallest_15 : decode cX8_smallest 15 = .ok (.iload_n 2, 1) := by decide +kernel
theorem dX8_smallest_16 : decode cX8_smallest 16 = .ok (.invokevirtual 130, 3) := by decide +kernel
theorem dX8_smallest_19 : decode cX8_smallest 19 = .ok (.ifCond .eq 27, 3) := by decide +kernel
theorem dX8_smallest_22 : decode cX8_smallest 22 = .ok (.iload_n 1, 1) := by decide +kernel
theorem dX8_smallest_23 : decode cX8_smallest 23 = .ok (.iconst (-1), 1) := by decide +kernel
theorem dX8_smallest_24 : decode cX8_smallest 24 = .ok (.if_icmp .eq 18, 3) := by decide +kernel
theorem dX8_smallest_27 : decode cX8_smallest 27 = .ok (.aload_n 0, 1) := by decide +kernel
theorem dX8_smallest_28 : decode cX8_smallest 28 = .ok (.iload_n 2, 1) := by decide +kernel
theorem dX8_smallest_29 : decode cX8_smallest 29 = .ok (.iconst 1, 1) := by decide +kernel
theorem dX8_smallest_30 : decode cX8_smallest 30 = .ok (.invokevirtual 70, 3) := by decide +kernel
theorem dX8_smallest_33 : decode cX8_smallest 33 = .ok (.aload_n 0, 1) := by decide +kernel
theorem dX8_smallest_34 : decode cX8_smallest 34 = .ok (.iload_n 1, 1) := by decide +kernel
theorem dX8_smallest_35 : decode cX8_smallest 35 = .ok (.iconst 1, 1) := by decide +kernel
theorem dX8_smallest_36 : decode cX8_smallest 36 = .ok (.invokevirtual 70, 3) := by decide +kernel
theorem dX8_smallest_39 : decode cX8_smallest 39 = .ok (.if_icmp .ge 7, 3) := by decide +kernel
theorem dX8_smallest_42 : decode cX8_smallest 42 = .ok (.iload_n 2, 1) := by decide +kernel
theorem dX8_smallest_43 : decode cX8_smallest 43 = .ok (.goto 4, 3) := by decide +kernel
theorem dX8_smallest_46 : decode cX8_smallest 46 = .ok (.iload_n 1, 1) := by decide +kernel
theorem dX8_smallest_47 : decode cX8_smallest 47 = .ok (.istore_n 1, 1) := by decide +kernel
theorem dX8_smallest_48 : decode cX8_smallest 48 = .ok (.iinc 2 1, 3) := by decide +kernel
theorem dX8_smallest_51 : decode cX8_smallest 51 = .ok (.goto (-47), 3) := by decide +kernel
theorem dX8_smallest_54 : decode cX8_smallest 54 = .ok (.iload_n 1, 1) := by decide +kernel
theorem dX8_smallest_55 : decode cX8_smallest 55 = .ok (.ireturn, 1) := by decide +kernel
set_option maxRecDepth 20000 in
theorem ggX8_interestOfAll_X8_of : GoodIn wsX8_interestOfAll wsX8_of := goodIn_r _ [6, 1, 7, 8, 9, 10, 11, 12, 13, 14, 15, 16, 17, 18, 19, 20, 21, 22, 23, 24, 25, 26, 27, 28, 29, 30, 31, 32, 33, 34, 35] (by decide +kernel) (by decide +kernel)
set_option maxRecDepth 20000 in
theorem gX8_interestOfAll_X8_of : GoodIn wsX8_interestOfAll (wsV RX8 70 RX8 yX8_of wsX8_of) := goodIn_app (goodIn_of _ (by decide +kernel)) ggX8_interestOfAll_X8_of
theorem dX8_interestOfAll_0 : decode cX8_interestOfAll 0 = .ok (.iconst 0, 1) := by decide +kernel
theorem dX8_interestOfAll_1 : decode cX8_interestOfAll 1 = .ok (.istore_n 1, 1) := by decide +kernel
theorem dX8_interestOfAll_2 : decode cX8_interestOfAll 2 = .ok (.iconst 0, 1) := by decide +kernel
theorem dX8_interestOfAll_3 : decode cX8_interestOfAll 3 = .ok (.istore_n 2, 1) := by decide +kernel
theorem dX8_interestOfAll_4 : decode cX8_interestOfAll 4 = .ok (.iload_n 2, 1) := by decide +kernel
theorem dX8_interestOfAll_5 : decode cX8_interestOfAll 5 = .ok (.aload_n 0, 1) := by decide +kernel
theorem dX8_interestOfAll_6 : decode cX8_interestOfAll 6 = .ok (.getfield 9, 3) := by decide +kernel
theorem dX8_interestOfAll_9 : decode cX8_interestOfAll 9 = .ok (.iconst 0, 1) := by decide +kernel
theorem dX8_interestOfAll_10 : decode cX8_interestOfAll 10 = .ok (.iaload, 1) := by decide +kernel
theorem dX8_interestOfAll_11 : decode cX8_interestOfAll 11 = .ok (.if_icmp .ge 19, 3) := by decide +kernel
theorem dX8_interestOfAll_14 : decode cX8_interestOfAll 14 = .ok (.iload_n 1, 1) := by decide +kernel
theorem dX8_interestOfAll_15 : decode cX8_interestOfAll 15 = .ok (.aload_n 0, 1) := by decide +kernel
theorem dX8_interestOfAll_16 : decode cX8_interestOfAll 16 = .ok (.iload_n 2, 1) := by decide +kernel
theorem dX8_interestOfAll_17 : decode cX8_interestOfAll 17 = .ok (.bipush 6, 2) := by decide +kernel
theorem dX8_interestOfAll_19 : decode cX8_interestOfAll 19 = .ok (.invokevirtual 70, 3) := by decide +kernel
theorem dX8_interestOfAll_22 : decode cX8_interestOfAll 22 = .ok (.iadd, 1) := by decide +kernel
theorem dX8_interestOfAll_23 : decode cX8_interestOfAll 23 = .ok (.istore_n 1, 1) := by decide +kernel
theorem dX8_interestOfAll_24 : decode cX8_interestOfAll 24 = .ok (.iinc 2 1, 3) := by decide +kernel
theorem dX8_interestOfAll_27 : decode cX8_interestOfAll 27 = .ok (.goto (-23), 3) := by decide +kernel
theorem dX8_interestOfAll_30 : decode cX8_interestOfAll 30 = .ok (.iload_n 1, 1) := by decide +kernel
theorem dX8_interestOfAll_31 : decode cX8_interestOfAll 31 = .ok (.ireturn, 1) := by decide +kernel
set_option maxRecDepth 20000 in
theorem ggX8_dueOfAll_X8_isRunning : GoodIn wsX8_dueOfAll wsX8_isRunning := goodIn_r _ [7, 8, 9, 10, 6, 11, 1, 34, 35, 36, 37, 38, 39, 40, 41, 42, 43, 44, 45, 46, 47, 48, 49, 50, 51, 52, 53, 54, 55, 56, 57, 58, 59, 60, 61, 62] (by decide +kernel) (by decide +kernel)
set_option maxRecDepth 20000 in
theorem gX8_dueOfAll_X8_isRunning : GoodIn wsX8_dueOfAll (wsV RX8 130 RX8 yX8_isRunning wsX8_isRunning) := goodIn_app (goodIn_of _ (by decide +kernel)) ggX8_dueOfAll_X8_isRunning
set_option maxRecDepth 20000 in
theorem ggX8_dueOfAll_X8_nextMonth : GoodIn wsX8_dueOfAll wsX8_nextMonth := goodIn_r _ [15, 16, 17, 18, 6, 19, 8, 9, 10, 11, 1, 20, 21, 22, 23, 24, 25, 26, 27, 2, 28, 29, 30, 31, 32, 33, 34, 35, 36, 37, 38, 39, 40, 41, 42, 43, 44, 45, 46, 47, 48, 49, 50, 51, 52, 53, 54, 55, 56, 57, 58, 59, 60, 61, 62] (by decide +kernel) (by decide +kernel)
set_option maxRecDepth 20000 in
theorem gX8_dueOfAll_X8_nextMonth : GoodIn wsX8_dueOfAll (wsV RX8 134 RX8 yX8_nextMonth wsX8_nextMonth) := goodIn_app (goodIn_of _ (by decide +kernel)) ggX8_dueOfAll_X8_nextMonth
theorem dX8_dueOfAll_0 : decode cX8_dueOfAll 0 = .ok (.iconst 0, 1) := by decide +kernel
theorem dX8_dueOfAll_1 : decode cX8_dueOfAll 1 = .ok (.istore_n 1, 1) := by decide +kernel
theorem dX8_dueOfAll_2 : decode cX8_dueOfAll 2 = .ok (.iconst 0, 1) := by decide +kernel
theorem dX8_dueOfAll_3 : decode cX8_dueOfAll 3 = .ok (.istore_n 2, 1) := by decide +kernel
theorem dX8_dueOfAll_4 : decode cX8_dueOfAll 4 = .ok (.iload_n 2, 1) := by decide +kernel
theorem dX8_dueOfAll_5 : decode cX8_dueOfAll 5 = .ok (.aload_n 0, 1) := by decide +kernel
theorem dX8_dueOfAll_6 : decode cX8_dueOfAll 6 = .ok (.getfield 9, 3) := by decide +kernel
theorem dX8_dueOfAll_9 : decode cX8_dueOfAll 9 = .ok (.iconst 0, 1) := by decide +kernel
theorem dX8_dueOfAll_10 : decode cX8_dueOfAll 10 = .ok (.iaload, 1) := by decide +kernel
theorem dX8_dueOfAll_11 : decode cX8_dueOfAll 11 = .ok (.if_icmp .ge 30, 3) := by decide +kernel
theorem dX8_dueOfAll_14 : decode cX8_dueOfAll 14 = .ok (.aload_n 0, 1) := by decide +kernel
theorem dX8_dueOfAll_15 : decode cX8_dueOfAll 15 = .ok (.iload_n 2, 1) := by decide +kernel
theorem dX8_dueOfAll_16 : decode cX8_dueOfAll 16 = .ok (.invokevirtual 130, 3) := by decide +kernel
theorem dX8_dueOfAll_19 : decode cX8_dueOfAll 19 = .ok (.ifCond .eq 16, 3) := by decide +kernel
theorem dX8_dueOfAll_22 : decode cX8_dueOfAll 22 = .ok (.aload_n 0, 1) := by decide +kernel
theorem dX8_dueOfAll_23 : decode cX8_dueOfAll 23 = .ok (.iload_n 2, 1) := by decide +kernel
theorem dX8_dueOfAll_24 : decode cX8_dueOfAll 24 = .ok (.invokevirtual 134, 3) := by decide +kernel
theorem dX8_dueOfAll_27 : decode cX8_dueOfAll 27 = .ok (.iload_n 1, 1) := by decide +kernel
theorem dX8_dueOfAll_28 : decode cX8_dueOfAll 28 = .ok (.aload_n 0, 1) := by decide +kernel
theorem dX8_dueOfAll_29 : decode cX8_dueOfAll 29 = .ok (.getfield 91, 3) := by decide +kernel
theorem dX8_dueOfAll_32 : decode cX8_dueOfAll 32 = .ok (.l2i, 1) := by decide +kernel
theorem dX8_dueOfAll_33 : decode cX8_dueOfAll 33 = .ok (.iadd, 1) := by decide +kernel
theorem dX8_dueOfAll_34 : decode cX8_dueOfAll 34 = .ok (.istore_n 1, 1) := by decide +kernel
theorem dX8_dueOfAll_35 : decode cX8_dueOfAll 35 = .ok (.iinc 2 1, 3) := by decide +kernel
theorem dX8_dueOfAll_38 : decode cX8_dueOfAll 38 = .ok (.goto (-34), 3) := by decide +kernel
theorem dX8_dueOfAll_41 : decode cX8_dueOfAll 41 = .ok (.iload_n 1, 1) := by decide +kernel
theorem dX8_dueOfAll_42 : decode cX8_dueOfAll 42 = .ok (.ireturn, 1) := by decide +kernel
set_option maxRecDepth 20000 in
theorem ggX8_nextTarget_X8_dearest : GoodIn wsX8_nextTarget wsX8_dearest := goodIn_r _ [5, 6, 7, 8, 9, 4, 10, 11, 12, 13, 14, 19, 20, 21, 22, 23, 24, 25, 26, 27, 28, 29, 30, 31, 32, 33, 34, 35, 36, 37, 38, 39, 40, 41, 42, 43, 44, 45, 46, 47] (by decide +kernel) (by decide +kernel)
set_option maxRecDepth 20000 in
theorem gX8_nextTarget_X8_dearest : GoodIn wsX8_nextTarget (wsV RX8 189 RX8 yX8_dearest wsX8_dearest) := goodIn_app (goodIn_of _ (by decide +kernel)) ggX8_nextTarget_X8_dearest
set_option maxRecDepth 20000 in
theorem ggX8_nextTarget_X8_smallest : GoodIn wsX8_nextTarget wsX8_smallest := goodIn_r _ [18, 6, 7, 8, 9, 4, 10, 11, 12, 13, 14, 19, 20, 21, 22, 23, 24, 25, 26, 27, 28, 29, 30, 31, 32, 33, 34, 35, 36, 37, 38, 39, 40, 41, 42, 43, 44, 45, 46, 47] (by decide +kernel) (by decide +kernel)
set_option maxRecDepth 20000 in
theorem gX8_nextTarget_X8_smallest : GoodIn wsX8_nextTarget (wsV RX8 330 RX8 yX8_smallest wsX8_smallest) := goodIn_app (goodIn_of _ (by decide +kernel)) ggX8_nextTarget_X8_smallest
theorem dX8_nextTarget_0 : decode cX8_nextTarget 0 = .ok (.iload_n 1, 1) := by decide +kernel
theorem dX8_nextTarget_1 : decode cX8_nextTarget 1 = .ok (.ifCond .eq 10, 3) := by decide +kernel
theorem dX8_nextTarget_4 : decode cX8_nextTarget 4 = .ok (.aload_n 0, 1) := by decide +kernel
theorem dX8_nextTarget_5 : decode cX8_nextTarget 5 = .ok (.invokevirtual 189, 3) := by decide +kernel
theorem dX8_nextTarget_8 : decode cX8_nextTarget 8 = .ok (.goto 7, 3) := by decide +kernel
theorem dX8_nextTarget_11 : decode cX8_nextTarget 11 = .ok (.aload_n 0, 1) := by decide +kernel
theorem dX8_nextTarget_12 : decode cX8_nextTarget 12 = .ok (.invokevirtual 330, 3) := by decide +kernel
theorem dX8_nextTarget_15 : decode cX8_nextTarget 15 = .ok (.ireturn, 1) := by decide +kernel
set_option maxRecDepth 20000 in
theorem ggX8_spendBudget_X8_payEach : GoodIn wsX8_spendBudget wsX8_payEach := goodIn_r _ [5, 6, 7, 8, 9, 4, 10, 11, 12, 13, 14, 15, 16, 17, 18, 19, 20, 21, 22, 23, 24, 25, 26, 27, 28, 29, 30, 31, 32, 33, 34, 35, 36, 37, 38, 39, 40, 41, 42, 43, 44, 45, 46, 47, 48, 49, 50, 51, 52, 53, 54, 55, 56, 57, 95, 96, 97, 98, 99, 100, 101, 102, 103, 104, 105, 106, 107, 108, 109, 110, 111, 112, 113, 114, 115, 116, 117, 118, 119, 120, 121, 122, 123] (by decide +kernel) (by decide +kernel)
set_option maxRecDepth 20000 in
theorem gX8_spendBudget_X8_payEach : GoodIn wsX8_spendBudget (wsV RX8 44 RX8 yX8_payEach wsX8_payEach) := goodIn_app (goodIn_of _ (by decide +kernel)) ggX8_spendBudget_X8_payEach
set_option maxRecDepth 20000 in
theorem ggX8_spendBudget_X8_nextTarget : GoodIn wsX8_spendBudget wsX8_nextTarget := goodIn_r _ [61, 62, 63, 64, 4, 65, 6, 7, 8, 9, 10, 11, 12, 13, 14, 66, 67, 68, 69, 95, 96, 97, 98, 99, 100, 101, 102, 103, 104, 105, 106, 107, 108, 109, 110, 111, 112, 113, 114, 115, 116, 117, 118, 119, 120, 121, 122, 123] (by decide +kernel) (by decide +kernel)
set_option maxRecDepth 20000 in
theorem gX8_spendBudget_X8_nextTarget : GoodIn wsX8_spendBudget (wsV RX8 333 RX8 yX8_nextTarget wsX8_nextTarget) := goodIn_app (goodIn_of _ (by decide +kernel)) ggX8_spendBudget_X8_nextTarget
set_option maxRecDepth 20000 in
theorem ggX8_spendBudget_X8_of : GoodIn wsX8_spendBudget wsX8_of := goodIn_r _ [14, 6, 95, 96, 97, 98, 99, 100, 101, 102, 103, 104, 105, 106, 107, 108, 109, 110, 111, 112, 113, 114, 115, 116, 117, 118, 119, 120, 121, 122, 123] (by decide +kernel) (by decide +kernel)
set_option maxRecDepth 20000 in
theorem gX8_spendBudget_X8_of : GoodIn wsX8_spendBudget (wsV RX8 70 RX8 yX8_of wsX8_of) := goodIn_app (goodIn_of _ (by decide +kernel)) ggX8_spendBudget_X8_of
set_option maxRecDepth 20000 in
theorem ggX8_spendBudget_X8_extra : GoodIn wsX8_spendBudget wsX8_extra := goodIn_r _ [73, 46, 47, 48, 4, 49, 11, 12, 13, 14, 6, 42, 43, 44, 45, 50, 51, 52, 53, 54, 55, 56, 57, 7, 8, 9, 10, 74, 75, 76, 77, 78, 79, 80, 81, 19, 82, 27, 28, 29, 30, 31, 32, 33, 34, 20, 21, 35, 36, 22, 37, 38, 39, 40, 41, 83, 84, 85, 86, 87, 88, 89, 90, 91, 92, 93, 94, 95, 96, 97, 98, 99, 100, 101, 102, 103, 104, 105, 106, 107, 108, 109, 110, 111, 112, 113, 114, 115, 116, 117, 118, 119, 120, 121, 122, 123] (by decide +kernel) (by decide +kernel)
set_option maxRecDepth 20000 in
theorem gX8_spendBudget_X8_extra : GoodIn wsX8_spendBudget (wsV RX8 48 RX8 yX8_extra wsX8_extra) := goodIn_app (goodIn_of _ (by decide +kernel)) ggX8_spendBudget_X8_extra
theorem dX8_spendBudget_0 : decode cX8_spendBudget 0 = .ok (.iload_n 1, 1) := by decide +kernel
theorem dX8_spendBudget_1 : decode cX8_spendBudget 1 = .ok (.aload_n 0, 1) := by decide +kernel
theorem dX8_spendBudget_2 : decode cX8_spendBudget 2 = .ok (.invokevirtual 44, 3) := by decide +kernel
theorem dX8_spendBudget_5 : decode cX8_spendBudget 5 = .ok (.isub, 1) := by decide +kernel
theorem dX8_spendBudget_6 : decode cX8_spendBudget 6 = .ok (.istore_n 3, 1) := by decide +kernel
theorem dX8_spendBudget_7 : decode cX8_spendBudget 7 = .ok (.aload_n 0, 1) := by decide +kernel
theorem dX8_spendBudget_8 : decode cX8_spendBudget 8 = .ok (.iload_n 2, 1) := by decide +kernel
theorem dX8_spendBudget_9 : decode cX8_spendBudget 9 = .ok (.invokevirtual 333, 3) := by decide +kernel
theorem dX8_spendBudget_12 : decode cX8_spendBudget 12 = .ok (.istore 4, 2) := by decide +kernel
theorem dX8_spendBudget_14 : decode cX8_spendBudget 14 = .ok (.iload 4, 2) := by decide +kernel
theorem dX8_spendBudget_16 : decode cX8_spendBudget 16 = .ok (.iconst (-1), 1) := by decide +kernel
theorem dX8_spendBudget_17 : decode cX8_spendBudget 17 = .ok (.if_icmp .eq 55, 3) := by decide +kernel
theorem dX8_spendBudget_20 : decode cX8_spendBudget 20 = .ok (.iload_n 3, 1) := by decide +kernel
theorem dX8_spendBudget_21 : decode cX8_spendBudget 21 = .ok (.ifCond .le 51, 3) := by decide +kernel
theorem dX8_spendBudget_24 : decode cX8_spendBudget 24 = .ok (.iload_n 3, 1) := by decide +kernel
theorem dX8_spendBudget_25 : decode cX8_spendBudget 25 = .ok (.aload_n 0, 1) := by decide +kernel
theorem dX8_spendBudget_26 : decode cX8_spendBudget 26 = .ok (.iload 4, 2) := by decide +kernel
theorem dX8_spendBudget_28 : decode cX8_spendBudget 28 = .ok (.iconst 1, 1) := by decide +kernel
theorem dX8_spendBudget_29 : decode cX8_spendBudget 29 = .ok (.invokevirtual 70, 3) := by decide +kernel
theorem dX8_spendBudget_32 : decode cX8_spendBudget 32 = .ok (.if_icmp .ge 7, 3) := by decide +kernel
theorem dX8_spendBudget_35 : decode cX8_spendBudget 35 = .ok (.iload_n 3, 1) := by decide +kernel
theorem dX8_spendBudget_36 : decode cX8_spendBudget 36 = .ok (.goto 10, 3) := by decide +kernel
theorem dX8_spendBudget_39 : decode cX8_spendBudget 39 = .ok (.aload_n 0, 1) := by decide +kernel
theorem dX8_spendBudget_40 : decode cX8_spendBudget 40 = .ok (.iload 4, 2) := by decide +kernel
theorem dX8_spendBudget_42 : decode cX8_spendBudget 42 = .ok (.iconst 1, 1) := by decide +kernel
theorem dX8_spendBudget_43 : decode cX8_spendBudget 43 = .ok (.invokevirtual 70, 3) := by decide +kernel
theorem dX8_spendBudget_46 : decode cX8_spendBudget 46 = .ok (.istore 5, 2) := by decide +kernel
theorem dX8_spendBudget_48 : decode cX8_spendBudget 48 = .ok (.aload_n 0, 1) := by decide +kernel
theorem dX8_spendBudget_49 : decode cX8_spendBudget 49 = .ok (.iload 4, 2) := by decide +kernel
theorem dX8_spendBudget_51 : decode cX8_spendBudget 51 = .ok (.iload 5, 2) := by decide +kernel
theorem dX8_spendBudget_53 : decode cX8_spendBudget 53 = .ok (.iconst 0, 1) := by decide +kernel
theorem dX8_spendBudget_54 : decode cX8_spendBudget 54 = .ok (.invokevirtual 48, 3) := by decide +kernel
theorem dX8_spendBudget_57 : decode cX8_spendBudget 57 = .ok (.iload_n 3, 1) := by decide +kernel
theorem dX8_spendBudget_58 : decode cX8_spendBudget 58 = .ok (.iload 5, 2) := by decide +kernel
theorem dX8_spendBudget_60 : decode cX8_spendBudget 60 = .ok (.isub, 1) := by decide +kernel
theorem dX8_spendBudget_61 : decode cX8_spendBudget 61 = .ok (.istore_n 3, 1) := by decide +kernel
theorem dX8_spendBudget_62 : decode cX8_spendBudget 62 = .ok (.aload_n 0, 1) := by decide +kernel
theorem dX8_spendBudget_63 : decode cX8_spendBudget 63 = .ok (.iload_n 2, 1) := by decide +kernel
theorem dX8_spendBudget_64 : decode cX8_spendBudget 64 = .ok (.invokevirtual 333, 3) := by decide +kernel
theorem dX8_spendBudget_67 : decode cX8_spendBudget 67 = .ok (.istore 4, 2) := by decide +kernel
theorem dX8_spendBudget_69 : decode cX8_spendBudget 69 = .ok (.goto (-55), 3) := by decide +kernel
theorem dX8_spendBudget_72 : decode cX8_spendBudget 72 = .ok (.return_, 1) := by decide +kernel
set_option maxRecDepth 20000 in
theorem ggX8_tryBudget_X8_copy : GoodIn wsX8_tryBudget wsX8_copy := goodIn_r _ [7] (by decide +kernel) (by decide +kernel)
set_option maxRecDepth 20000 in
theorem gX8_tryBudget_X8_copy : GoodIn wsX8_tryBudget (va_wsS RX8 62 yX8_copy wsX8_copy) := goodIn_app (goodIn_of _ (by decide +kernel)) ggX8_tryBudget_X8_copy
set_option maxRecDepth 20000 in
theorem ggX8_tryBudget_X8_interestOfAll : GoodIn wsX8_tryBudget wsX8_interestOfAll := goodIn_r _ [11, 1, 12, 13, 14, 6, 15, 116, 117, 118, 119, 120, 121, 122, 123, 124, 125, 126, 127, 128, 129, 130, 131, 132, 133, 134, 135, 136, 137, 138, 139, 140, 141, 142, 143, 144] (by decide +kernel) (by decide +kernel)
set_option maxRecDepth 20000 in
theorem gX8_tryBudget_X8_interestOfAll : GoodIn wsX8_tryBudget (wsV RX8 337 RX8 yX8_interestOfAll wsX8_interestOfAll) := goodIn_app (goodIn_of _ (by decide +kernel)) ggX8_tryBudget_X8_interestOfAll
set_option maxRecDepth 20000 in
theorem ggX8_tryBudget_X8_openLoans : GoodIn wsX8_tryBudget wsX8_openLoans := goodIn_r _ [19, 1, 20, 21, 22, 6, 23, 12, 13, 14, 15, 116, 117, 118, 119, 120, 121, 122, 123, 124, 125, 126, 127, 128, 129, 130, 131, 132, 133, 134, 135, 136, 137, 138, 139, 140, 141, 142, 143, 144] (by decide +kernel) (by decide +kernel)
set_option maxRecDepth 20000 in
theorem gX8_tryBudget_X8_openLoans : GoodIn wsX8_tryBudget (wsV RX8 309 RX8 yX8_openLoans wsX8_openLoans) := goodIn_app (goodIn_of _ (by decide +kernel)) ggX8_tryBudget_X8_openLoans
set_option maxRecDepth 20000 in
theorem ggX8_tryBudget_X8_dueOfAll : GoodIn wsX8_tryBudget wsX8_dueOfAll := goodIn_r _ [27, 1, 28, 20, 21, 22, 6, 23, 12, 13, 14, 15, 29, 30, 31, 32, 33, 34, 35, 36, 37, 38, 39, 40, 41, 42, 43, 44, 45, 46, 47, 48, 49, 50, 116, 117, 118, 119, 120, 121, 122, 123, 124, 125, 126, 127, 128, 129, 130, 131, 132, 133, 134, 135, 136, 137, 138, 139, 140, 141, 142, 143, 144] (by decide +kernel) (by decide +kernel)
set_option maxRecDepth 20000 in
theorem gX8_tryBudget_X8_dueOfAll : GoodIn wsX8_tryBudget (wsV RX8 340 RX8 yX8_dueOfAll wsX8_dueOfAll) := goodIn_app (goodIn_of _ (by decide +kernel)) ggX8_tryBudget_X8_dueOfAll
set_option maxRecDepth 20000 in
theorem ggX8_tryBudget_X8_spendBudget : GoodIn wsX8_tryBudget wsX8_spendBudget := goodIn_r _ [54, 55, 56, 57, 6, 58, 1, 20, 21, 22, 23, 12, 13, 14, 15, 59, 60, 61, 62, 28, 41, 42, 45, 29, 30, 31, 32, 33, 34, 35, 36, 37, 38, 39, 40, 43, 44, 46, 47, 48, 49, 50, 63, 64, 65, 66, 67, 68, 69, 70, 71, 72, 73, 74, 75, 76, 77, 78, 79, 80, 81, 82, 83, 84, 85, 86, 87, 88, 89, 90, 91, 92, 93, 94, 95, 96, 97, 98, 99, 100, 101, 102, 103, 104, 105, 106, 107, 108, 109, 110, 111, 112, 113, 114, 115, 116, 117, 118, 119, 120, 121, 122, 123, 124, 125, 126, 127, 128, 129, 130, 131, 132, 133, 134, 135, 136, 137, 138, 139, 140, 141, 142, 143, 144] (by decide +kernel) (by decide +kernel)
set_option maxRecDepth 20000 in
theorem gX8_tryBudget_X8_spendBudget : GoodIn wsX8_tryBudget (wsV RX8 343 RX8 yX8_spendBudget wsX8_spendBudget) := goodIn_app (goodIn_of _ (by decide +kernel)) ggX8_tryBudget_X8_spendBudget
theorem dX8_tryBudget_0 : decode cX8_tryBudget 0 = .ok (.aload_n 0, 1) := by decide +kernel
theorem dX8_tryBudget_1 : decode cX8_tryBudget 1 = .ok (.getfield 9, 3) := by decide +kernel
theorem dX8_tryBudget_4 : decode cX8_tryBudget 4 = .ok (.aload_n 0, 1) := by decide +kernel
theorem dX8_tryBudget_5 : decode cX8_tryBudget 5 = .ok (.getfield 24, 3) := by decide +kernel
theorem dX8_tryBudget_8 : decode cX8_tryBudget 8 = .ok (.invokestatic 62, 3) := by decide +kernel
theorem dX8_tryBudget_11 : decode cX8_tryBudget 11 = .ok (.aload_n 0, 1) := by decide +kernel
theorem dX8_tryBudget_12 : decode cX8_tryBudget 12 = .ok (.invokevirtual 337, 3) := by decide +kernel
theorem dX8_tryBudget_15 : decode cX8_tryBudget 15 = .ok (.istore_n 3, 1) := by decide +kernel
theorem dX8_tryBudget_16 : decode cX8_tryBudget 16 = .ok (.iconst 0, 1) := by decide +kernel
theorem dX8_tryBudget_17 : decode cX8_tryBudget 17 = .ok (.istore 4, 2) := by decide +kernel
theorem dX8_tryBudget_19 : decode cX8_tryBudget 19 = .ok (.aload_n 0, 1) := by decide +kernel
theorem dX8_tryBudget_20 : decode cX8_tryBudget 20 = .ok (.invokevirtual 309, 3) := by decide +kernel
theorem dX8_tryBudget_23 : decode cX8_tryBudget 23 = .ok (.ifCond .le 23, 3) := by decide +kernel
theorem dX8_tryBudget_26 : decode cX8_tryBudget 26 = .ok (.aload_n 0, 1) := by decide +kernel
theorem dX8_tryBudget_27 : decode cX8_tryBudget 27 = .ok (.invokevirtual 340, 3) := by decide +kernel
theorem dX8_tryBudget_30 : decode cX8_tryBudget 30 = .ok (.iload_n 1, 1) := by decide +kernel
theorem dX8_tryBudget_31 : decode cX8_tryBudget 31 = .ok (.if_icmp .gt 15, 3) := by decide +kernel
theorem dX8_tryBudget_34 : decode cX8_tryBudget 34 = .ok (.aload_n 0, 1) := by decide +kernel
theorem dX8_tryBudget_35 : decode cX8_tryBudget 35 = .ok (.iload_n 1, 1) := by decide +kernel
theorem dX8_tryBudget_36 : decode cX8_tryBudget 36 = .ok (.iload_n 2, 1) := by decide +kernel
theorem dX8_tryBudget_37 : decode cX8_tryBudget 37 = .ok (.invokevirtual 343, 3) := by decide +kernel
theorem dX8_tryBudget_40 : decode cX8_tryBudget 40 = .ok (.iinc 4 1, 3) := by decide +kernel
theorem dX8_tryBudget_43 : decode cX8_tryBudget 43 = .ok (.goto (-24), 3) := by decide +kernel
theorem dX8_tryBudget_46 : decode cX8_tryBudget 46 = .ok (.aload_n 0, 1) := by decide +kernel
theorem dX8_tryBudget_47 : decode cX8_tryBudget 47 = .ok (.invokevirtual 309, 3) := by decide +kernel
theorem dX8_tryBudget_50 : decode cX8_tryBudget 50 = .ok (.ifCond .ne 7, 3) := by decide +kernel
theorem dX8_tryBudget_53 : decode cX8_tryBudget 53 = .ok (.iconst 1, 1) := by decide +kernel
theorem dX8_tryBudget_54 : decode cX8_tryBudget 54 = .ok (.goto 4, 3) := by decide +kernel
theorem dX8_tryBudget_57 : decode cX8_tryBudget 57 = .ok (.iconst 0, 1) := by decide +kernel
theorem dX8_tryBudget_58 : decode cX8_tryBudget 58 = .ok (.istore 5, 2) := by decide +kernel
theorem dX8_tryBudget_60 : decode cX8_tryBudget 60 = .ok (.aload_n 0, 1) := by decide +kernel
theorem dX8_tryBudget_61 : decode cX8_tryBudget 61 = .ok (.aload_n 0, 1) := by decide +kernel
theorem dX8_tryBudget_62 : decode cX8_tryBudget 62 = .ok (.invokevirtual 337, 3) := by decide +kernel
theorem dX8_tryBudget_65 : decode cX8_tryBudget 65 = .ok (.iload_n 3, 1) := by decide +kernel
theorem dX8_tryBudget_66 : decode cX8_tryBudget 66 = .ok (.isub, 1) := by decide +kernel
theorem dX8_tryBudget_67 : decode cX8_tryBudget 67 = .ok (.putfield 347, 3) := by decide +kernel
theorem dX8_tryBudget_70 : decode cX8_tryBudget 70 = .ok (.aload_n 0, 1) := by decide +kernel
theorem dX8_tryBudget_71 : decode cX8_tryBudget 71 = .ok (.getfield 24, 3) := by decide +kernel
theorem dX8_tryBudget_74 : decode cX8_tryBudget 74 = .ok (.aload_n 0, 1) := by decide +kernel
theorem dX8_tryBudget_75 : decode cX8_tryBudget 75 = .ok (.getfield 9, 3) := by decide +kernel
theorem dX8_tryBudget_78 : decode cX8_tryBudget 78 = .ok (.invokestatic 62, 3) := by decide +kernel
theorem dX8_tryBudget_81 : decode cX8_tryBudget 81 = .ok (.iload 5, 2) := by decide +kernel
theorem dX8_tryBudget_83 : decode cX8_tryBudget 83 = .ok (.ifCond .eq 8, 3) := by decide +kernel
theorem dX8_tryBudget_86 : decode cX8_tryBudget 86 = .ok (.iload 4, 2) := by decide +kernel
theorem dX8_tryBudget_88 : decode cX8_tryBudget 88 = .ok (.goto 4, 3) := by decide +kernel
theorem dX8_tryBudget_91 : decode cX8_tryBudget 91 = .ok (.iconst (-1), 1) := by decide +kernel
theorem dX8_tryBudget_92 : decode cX8_tryBudget 92 = .ok (.ireturn, 1) := by decide +kernel
set_option maxRecDepth 20000 in
theorem ggX8_budgetMonths_X8_outside : GoodIn wsX8_budgetMonths wsX8_outside := goodIn_r _ [7, 1, 126, 127, 128, 129, 130, 131, 132, 133, 134, 135, 136, 137, 138, 139, 140, 141, 142, 143, 144, 145, 146, 147, 148, 149, 150, 151, 152, 153, 154] (by decide +kernel) (by decide +kernel)
set_option maxRecDepth 20000 in
theorem gX8_budgetMonths_X8_outside : GoodIn wsX8_budgetMonths (wsV RX8 66 RX8 yX8_outside wsX8_outside) := goodIn_app (goodIn_of _ (by decide +kernel)) ggX8_budgetMonths_X8_outside
set_option maxRecDepth 20000 in
theorem ggX8_budgetMonths_X8_tryBudget : GoodIn wsX8_budgetMonths wsX8_tryBudget := goodIn_r _ [11, 12, 13, 14, 15, 16, 6, 17, 18, 19, 20, 21, 22, 23, 24, 25, 26, 27, 28, 29, 30, 31, 32, 33, 34, 35, 36, 37, 38, 39, 40, 41, 42, 43, 44, 45, 46, 47, 48, 49, 50, 51, 52, 53, 54, 55, 56, 57, 58, 59, 60, 61, 62, 63, 64, 65, 66, 67, 68, 69, 70, 71, 72, 73, 74, 75, 76, 77, 78, 79, 80, 81, 82, 83, 84, 85, 86, 87, 88, 89, 90, 91, 92, 93, 94, 95, 96, 97, 98, 99, 100, 101, 102, 103, 104, 105, 106, 107, 108, 109, 110, 111, 112, 113, 114, 115, 116, 117, 118, 119, 120, 121, 122, 123, 124, 125, 126, 127, 128, 129, 130, 131, 132, 133, 134, 135, 136, 137, 138, 139, 140, 141, 142, 143, 144, 145, 146, 147, 148, 149, 150, 151, 152, 153, 154] (by decide +kernel) (by decide +kernel)
set_option maxRecDepth 20000 in
theorem gX8_budgetMonths_X8_tryBudget : GoodIn wsX8_budgetMonths (wsV RX8 350 RX8 yX8_tryBudget wsX8_tryBudget) := goodIn_app (goodIn_of _ (by decide +kernel)) ggX8_budgetMonths_X8_tryBudget
theorem dX8_budgetMonths_0 : decode cX8_budgetMonths 0 = .ok (.aload_n 0, 1) := by decide +kernel
theorem dX8_budgetMonths_1 : decode cX8_budgetMonths 1 = .ok (.iconst 0, 1) := by decide +kernel
theorem dX8_budgetMonths_2 : decode cX8_budgetMonths 2 = .ok (.putfield 56, 3) := by decide +kernel
theorem dX8_budgetMonths_5 : decode cX8_budgetMonths 5 = .ok (.aload_n 0, 1) := by decide +kernel
theorem dX8_budgetMonths_6 : decode cX8_budgetMonths 6 = .ok (.iload_n 1, 1) := by decide +kernel
theorem dX8_budgetMonths_7 : decode cX8_budgetMonths 7 = .ok (.iconst 1, 1) := by decide +kernel
theorem dX8_budgetMonths_8 : decode cX8_budgetMonths 8 = .ok (.ldc 154, 2) := by decide +kernel
theorem dX8_budgetMonths_10 : decode cX8_budgetMonths 10 = .ok (.iconst 1, 1) := by decide +kernel
theorem dX8_budgetMonths_11 : decode cX8_budgetMonths 11 = .ok (.invokevirtual 66, 3) := by decide +kernel
theorem dX8_budgetMonths_14 : decode cX8_budgetMonths 14 = .ok (.ifCond .eq 7, 3) := by decide +kernel
theorem dX8_budgetMonths_17 : decode cX8_budgetMonths 17 = .ok (.iconst 0, 1) := by decide +kernel
theorem dX8_budgetMonths_18 : decode cX8_budgetMonths 18 = .ok (.goto 9, 3) := by decide +kernel
theorem dX8_budgetMonths_21 : decode cX8_budgetMonths 21 = .ok (.aload_n 0, 1) := by decide +kernel
theorem dX8_budgetMonths_22 : decode cX8_budgetMonths 22 = .ok (.iload_n 1, 1) := by decide +kernel
theorem dX8_budgetMonths_23 : decode cX8_budgetMonths 23 = .ok (.iload_n 2, 1) := by decide +kernel
theorem dX8_budgetMonths_24 : decode cX8_budgetMonths 24 = .ok (.invokevirtual 350, 3) := by decide +kernel
theorem dX8_budgetMonths_27 : decode cX8_budgetMonths 27 = .ok (.ireturn, 1) := by decide +kernel
set_option maxRecDepth 20000 in
theorem ggX8_budgetInterest_X8_outside : GoodIn wsX8_budgetInterest wsX8_outside := goodIn_r _ [8, 1, 126, 127, 128, 129, 130, 131, 132, 133, 134, 135, 136, 137, 138, 139, 140, 141, 142, 143, 144, 145, 146, 147, 148, 149, 150, 151, 152, 153, 154] (by decide +kernel) (by decide +kernel)
set_option maxRecDepth 20000 in
theorem gX8_budgetInterest_X8_outside : GoodIn wsX8_budgetInterest (wsV RX8 66 RX8 yX8_outside wsX8_outside) := goodIn_app (goodIn_of _ (by decide +kernel)) ggX8_budgetInterest_X8_outside
set_option maxRecDepth 20000 in
theorem ggX8_budgetInterest_X8_tryBudget : GoodIn wsX8_budgetInterest wsX8_tryBudget := goodIn_r _ [12, 13, 14, 3, 15, 16, 7, 17, 18, 19, 20, 21, 22, 23, 24, 25, 26, 27, 28, 29, 30, 31, 32, 33, 34, 35, 36, 37, 38, 39, 40, 41, 42, 43, 44, 45, 46, 47, 48, 49, 50, 51, 52, 53, 54, 55, 56, 57, 58, 59, 60, 61, 62, 63, 64, 65, 66, 67, 68, 69, 70, 71, 72, 73, 74, 75, 76, 77, 78, 79, 80, 81, 82, 83, 84, 85, 86, 87, 88, 89, 90, 91, 92, 93, 94, 95, 96, 97, 98, 99, 100, 101, 102, 103, 104, 105, 106, 107, 108, 109, 110, 111, 112, 113, 114, 115, 116, 117, 118, 119, 120, 121, 122, 123, 124, 125, 126, 127, 128, 129, 130, 131, 132, 133, 134, 135, 136, 137, 138, 139, 140, 141, 142, 143, 144, 145, 146, 147, 148, 149, 150, 151, 152, 153, 154] (by decide +kernel) (by decide +kernel)
set_option maxRecDepth 20000 in
theorem gX8_budgetInterest_X8_tryBudget : GoodIn wsX8_budgetInterest (wsV RX8 350 RX8 yX8_tryBudget wsX8_tryBudget) := goodIn_app (goodIn_of _ (by decide +kernel)) ggX8_budgetInterest_X8_tryBudget
theorem dX8_budgetInterest_0 : decode cX8_budgetInterest 0 = .ok (.aload_n 0, 1) := by decide +kernel
theorem dX8_budgetInterest_1 : decode cX8_budgetInterest 1 = .ok (.iconst 0, 1) := by decide +kernel
theorem dX8_budgetInterest_2 : decode cX8_budgetInterest 2 = .ok (.putfield 56, 3) := by decide +kernel
theorem dX8_budgetInterest_5 : decode cX8_budgetInterest 5 = .ok (.aload_n 0, 1) := by decide +kernel
theorem dX8_budgetInterest_6 : decode cX8_budgetInterest 6 = .ok (.iload_n 1, 1) := by decide +kernel
theorem dX8_budgetInterest_7 : decode cX8_budgetInterest 7 = .ok (.iconst 1, 1) := by decide +kernel
theorem dX8_budgetInterest_8 : decode cX8_budgetInterest 8 = .ok (.ldc 154, 2) := by decide +kernel
theorem dX8_budgetInterest_10 : decode cX8_budgetInterest 10 = .ok (.iconst 1, 1) := by decide +kernel
theorem dX8_budgetInterest_11 : decode cX8_budgetInterest 11 = .ok (.invokevirtual 66, 3) := by decide +kernel
theorem dX8_budgetInterest_14 : decode cX8_budgetInterest 14 = .ok (.ifCond .eq 5, 3) := by decide +kernel
theorem dX8_budgetInterest_17 : decode cX8_budgetInterest 17 = .ok (.iconst 0, 1) := by decide +kernel
theorem dX8_budgetInterest_18 : decode cX8_budgetInterest 18 = .ok (.ireturn, 1) := by decide +kernel
theorem dX8_budgetInterest_19 : decode cX8_budgetInterest 19 = .ok (.aload_n 0, 1) := by decide +kernel
theorem dX8_budgetInterest_20 : decode cX8_budgetInterest 20 = .ok (.iload_n 1, 1) := by decide +kernel
theorem dX8_budgetInterest_21 : decode cX8_budgetInterest 21 = .ok (.iload_n 2, 1) := by decide +kernel
theorem dX8_budgetInterest_22 : decode cX8_budgetInterest 22 = .ok (.invokevirtual 350, 3) := by decide +kernel
theorem dX8_budgetInterest_25 : decode cX8_budgetInterest 25 = .ok (.iconst (-1), 1) := by decide +kernel
theorem dX8_budgetInterest_26 : decode cX8_budgetInterest 26 = .ok (.if_icmp .ne 7, 3) := by decide +kernel
theorem dX8_budgetInterest_29 : decode cX8_budgetInterest 29 = .ok (.iconst (-1), 1) := by decide +kernel
theorem dX8_budgetInterest_30 : decode cX8_budgetInterest 30 = .ok (.goto 7, 3) := by decide +kernel
theorem dX8_budgetInterest_33 : decode cX8_budgetInterest 33 = .ok (.aload_n 0, 1) := by decide +kernel
theorem dX8_budgetInterest_34 : decode cX8_budgetInterest 34 = .ok (.getfield 347, 3) := by decide +kernel
theorem dX8_budgetInterest_37 : decode cX8_budgetInterest 37 = .ok (.ireturn, 1) := by decide +kernel
set_option maxRecDepth 20000 in
theorem ggX8_dearestLoan_X8_dearest : GoodIn wsX8_dearestLoan wsX8_dearest := goodIn_r _ [6, 7, 8, 9, 10, 5, 11, 12, 13, 14, 15, 16, 17, 18, 19, 20, 21, 22, 23, 24, 25, 26, 27, 28, 29, 30, 31, 32, 33, 34, 35, 36, 37, 38, 39, 40, 41, 42, 43, 44] (by decide +kernel) (by decide +kernel)
set_option maxRecDepth 20000 in
theorem gX8_dearestLoan_X8_dearest : GoodIn wsX8_dearestLoan (wsV RX8 189 RX8 yX8_dearest wsX8_dearest) := goodIn_app (goodIn_of _ (by decide +kernel)) ggX8_dearestLoan_X8_dearest
theorem dX8_dearestLoan_0 : decode cX8_dearestLoan 0 = .ok (.aload_n 0, 1) := by decide +kernel
theorem dX8_dearestLoan_1 : decode cX8_dearestLoan 1 = .ok (.iconst 0, 1) := by decide +kernel
theorem dX8_dearestLoan_2 : decode cX8_dearestLoan 2 = .ok (.putfield 56, 3) := by decide +kernel
theorem dX8_dearestLoan_5 : decode cX8_dearestLoan 5 = .ok (.aload_n 0, 1) := by decide +kernel
theorem dX8_dearestLoan_6 : decode cX8_dearestLoan 6 = .ok (.invokevirtual 189, 3) := by decide +kernel
theorem dX8_dearestLoan_9 : decode cX8_dearestLoan 9 = .ok (.ireturn, 1) := by decide +kernel
set_option maxRecDepth 20000 in
theorem ggX8_smallestLoan_X8_smallest : GoodIn wsX8_smallestLoan wsX8_smallest := goodIn_r _ [6, 7, 8, 9, 10, 5, 11, 12, 13, 14, 15, 16, 17, 18, 19, 20, 21, 22, 23, 24, 25, 26, 27, 28, 29, 30, 31, 32, 33, 34, 35, 36, 37, 38, 39, 40, 41, 42, 43, 44] (by decide +kernel) (by decide +kernel)
set_option maxRecDepth 20000 in
theorem gX8_smallestLoan_X8_smallest : GoodIn wsX8_smallestLoan (wsV RX8 330 RX8 yX8_smallest wsX8_smallest) := goodIn_app (goodIn_of _ (by decide +kernel)) ggX8_smallestLoan_X8_smallest
theorem dX8_smallestLoan_0 : decode cX8_smallestLoan 0 = .ok (.aload_n 0, 1) := by decide +kernel
theorem dX8_smallestLoan_1 : decode cX8_smallestLoan 1 = .ok (.iconst 0, 1) := by decide +kernel
theorem dX8_smallestLoan_2 : decode cX8_smallestLoan 2 = .ok (.putfield 56, 3) := by decide +kernel
theorem dX8_smallestLoan_5 : decode cX8_smallestLoan 5 = .ok (.aload_n 0, 1) := by decide +kernel
theorem dX8_smallestLoan_6 : decode cX8_smallestLoan 6 = .ok (.invokevirtual 330, 3) := by decide +kernel
theorem dX8_smallestLoan_9 : decode cX8_smallestLoan 9 = .ok (.ireturn, 1) := by decide +kernel
set_option maxRecDepth 20000 in
theorem ggX8_totalDue_X8_dueOfAll : GoodIn wsX8_totalDue wsX8_dueOfAll := goodIn_r _ [6, 7, 8, 9, 10, 11, 5, 12, 13, 14, 15, 16, 17, 18, 19, 20, 21, 22, 23, 24, 25, 26, 27, 28, 29, 30, 31, 32, 33, 34, 35, 36, 37, 38, 39, 40, 41, 42, 43, 44, 45, 46, 47, 48, 49, 50, 51, 52, 53, 54, 55, 56, 57, 58, 59, 60, 61, 62, 63, 64, 65, 66, 67] (by decide +kernel) (by decide +kernel)
set_option maxRecDepth 20000 in
theorem gX8_totalDue_X8_dueOfAll : GoodIn wsX8_totalDue (wsV RX8 340 RX8 yX8_dueOfAll wsX8_dueOfAll) := goodIn_app (goodIn_of _ (by decide +kernel)) ggX8_totalDue_X8_dueOfAll
theorem dX8_totalDue_0 : decode cX8_totalDue 0 = .ok (.aload_n 0, 1) := by decide +kernel
theorem dX8_totalDue_1 : decode cX8_totalDue 1 = .ok (.iconst 0, 1) := by decide +kernel
theorem dX8_totalDue_2 : decode cX8_totalDue 2 = .ok (.putfield 56, 3) := by decide +kernel
theorem dX8_totalDue_5 : decode cX8_totalDue 5 = .ok (.aload_n 0, 1) := by decide +kernel
theorem dX8_totalDue_6 : decode cX8_totalDue 6 = .ok (.invokevirtual 340, 3) := by decide +kernel
theorem dX8_totalDue_9 : decode cX8_totalDue 9 = .ok (.ireturn, 1) := by decide +kernel
set_option maxRecDepth 20000 in
theorem ggX8_allBalances_X8_of : GoodIn wsX8_allBalances wsX8_of := goodIn_r _ [6, 1, 7, 8, 9, 10, 11, 12, 13, 14, 15, 16, 17, 18, 19, 20, 21, 22, 23, 24, 25, 26, 27, 28, 29, 30, 31, 32, 33, 34, 35] (by decide +kernel) (by decide +kernel)
set_option maxRecDepth 20000 in
theorem gX8_allBalances_X8_of : GoodIn wsX8_allBalances (wsV RX8 70 RX8 yX8_of wsX8_of) := goodIn_app (goodIn_of _ (by decide +kernel)) ggX8_allBalances_X8_of
theorem dX8_allBalances_0 : decode cX8_allBalances 0 = .ok (.iconst 0, 1) := by decide +kernel
theorem dX8_allBalances_1 : decode cX8_allBalances 1 = .ok (.istore_n 1, 1) := by decide +kernel
theorem dX8_allBalances_2 : decode cX8_allBalances 2 = .ok (.iconst 0, 1) := by decide +kernel
theorem dX8_allBalances_3 : decode cX8_allBalances 3 = .ok (.istore_n 2, 1) := by decide +kernel
theorem dX8_allBalances_4 : decode cX8_allBalances 4 = .ok (.iload_n 2, 1) := by decide +kernel
theorem dX8_allBalances_5 : decode cX8_allBalances 5 = .ok (.aload_n 0, 1) := by decide +kernel
theorem dX8_allBalances_6 : decode cX8_allBalances 6 = .ok (.getfield 9, 3) := by decide +kernel
theorem dX8_allBalances_9 : decode cX8_allBalances 9 = .ok (.iconst 0, 1) := by decide +kernel
theorem dX8_allBalances_10 : decode cX8_allBalances 10 = .ok (.iaload, 1) := by decide +kernel
theorem dX8_allBalances_11 : decode cX8_allBalances 11 = .ok (.if_icmp .ge 18, 3) := by decide +kernel
theorem dX8_allBalances_14 : decode cX8_allBalances 14 = .ok (.iload_n 1, 1) := by decide +kernel
theorem dX8_allBalances_15 : decode cX8_allBalances 15 = .ok (.aload_n 0, 1) := by decide +kernel
theorem dX8_allBalances_16 : decode cX8_allBalances 16 = .ok (.iload_n 2, 1) := by decide +kernel
theorem dX8_allBalances_17 : decode cX8_allBalances 17 = .ok (.iconst 1, 1) := by decide +kernel
theorem dX8_allBalances_18 : decode cX8_allBalances 18 = .ok (.invokevirtual 70, 3) := by decide +kernel
theorem dX8_allBalances_21 : decode cX8_allBalances 21 = .ok (.iadd, 1) := by decide +kernel
theorem dX8_allBalances_22 : decode cX8_allBalances 22 = .ok (.istore_n 1, 1) := by decide +kernel
theorem dX8_allBalances_23 : decode cX8_allBalances 23 = .ok (.iinc 2 1, 3) := by decide +kernel
theorem dX8_allBalances_26 : decode cX8_allBalances 26 = .ok (.goto (-22), 3) := by decide +kernel
theorem dX8_allBalances_29 : decode cX8_allBalances 29 = .ok (.iload_n 1, 1) := by decide +kernel
theorem dX8_allBalances_30 : decode cX8_allBalances 30 = .ok (.ireturn, 1) := by decide +kernel
set_option maxRecDepth 20000 in
theorem ggX8_totalBalance_X8_allBalances : GoodIn wsX8_totalBalance wsX8_allBalances := goodIn_r _ [6, 7, 8, 9, 10, 5, 11, 12, 13, 14, 15, 16, 17, 18, 19, 20, 21, 22, 23, 24, 25, 26, 27, 28, 29, 30, 31, 32, 33, 34, 35, 36, 37, 38, 39, 40] (by decide +kernel) (by decide +kernel)
set_option maxRecDepth 20000 in
theorem gX8_totalBalance_X8_allBalances : GoodIn wsX8_totalBalance (wsV RX8 354 RX8 yX8_allBalances wsX8_allBalances) := goodIn_app (goodIn_of _ (by decide +kernel)) ggX8_totalBalance_X8_allBalances
theorem dX8_totalBalance_0 : decode cX8_totalBalance 0 = .ok (.aload_n 0, 1) := by decide +kernel
theorem dX8_totalBalance_1 : decode cX8_totalBalance 1 = .ok (.iconst 0, 1) := by decide +kernel
theorem dX8_totalBalance_2 : decode cX8_totalBalance 2 = .ok (.putfield 56, 3) := by decide +kernel
theorem dX8_totalBalance_5 : decode cX8_totalBalance 5 = .ok (.aload_n 0, 1) := by decide +kernel
theorem dX8_totalBalance_6 : decode cX8_totalBalance 6 = .ok (.invokevirtual 354, 3) := by decide +kernel
theorem dX8_totalBalance_9 : decode cX8_totalBalance 9 = .ok (.ireturn, 1) := by decide +kernel
set_option maxRecDepth 20000 in
theorem ggX8_monthsToFreedom_X8_ahead : GoodIn wsX8_monthsToFreedom wsX8_ahead := goodIn_r _ [8, 9, 10, 11, 7, 12, 13, 14, 15, 16, 2, 17, 18, 19, 20, 21, 22, 3, 23, 24, 25, 26, 27, 28, 29, 30, 31, 32, 33, 34, 35, 36, 37, 38, 39, 40, 41, 42, 43, 44, 45, 46, 47, 48, 49, 50, 51, 52, 53, 54, 55, 56, 57, 58, 59, 60, 61, 62, 63] (by decide +kernel) (by decide +kernel)
set_option maxRecDepth 20000 in
theorem gX8_monthsToFreedom_X8_ahead : GoodIn wsX8_monthsToFreedom (wsV RX8 124 RX8 yX8_ahead wsX8_ahead) := goodIn_app (goodIn_of _ (by decide +kernel)) ggX8_monthsToFreedom_X8_ahead
theorem dX8_monthsToFreedom_0 : decode cX8_monthsToFreedom 0 = .ok (.aload_n 0, 1) := by decide +kernel
theorem dX8_monthsToFreedom_1 : decode cX8_monthsToFreedom 1 = .ok (.iconst 0, 1) := by decide +kernel
theorem dX8_monthsToFreedom_2 : decode cX8_monthsToFreedom 2 = .ok (.putfield 56, 3) := by decide +kernel
theorem dX8_monthsToFreedom_5 : decode cX8_monthsToFreedom 5 = .ok (.iconst 0, 1) := by decide +kernel
theorem dX8_monthsToFreedom_6 : decode cX8_monthsToFreedom 6 = .ok (.istore_n 1, 1) := by decide +kernel
theorem dX8_monthsToFreedom_7 : decode cX8_monthsToFreedom 7 = .ok (.iconst 0, 1) := by decide +kernel
theorem dX8_monthsToFreedom_8 : decode cX8_monthsToFreedom 8 = .ok (.istore_n 2, 1) := by decide +kernel
theorem dX8_monthsToFreedom_9 : decode cX8_monthsToFreedom 9 = .ok (.iload_n 2, 1) := by decide +kernel
theorem dX8_monthsToFreedom_10 : decode cX8_monthsToFreedom 10 = .ok (.aload_n 0, 1) := by decide +kernel
theorem dX8_monthsToFreedom_11 : decode cX8_monthsToFreedom 11 = .ok (.getfield 9, 3) := by decide +kernel
theorem dX8_monthsToFreedom_14 : decode cX8_monthsToFreedom 14 = .ok (.iconst 0, 1) := by decide +kernel
theorem dX8_monthsToFreedom_15 : decode cX8_monthsToFreedom 15 = .ok (.iaload, 1) := by decide +kernel
theorem dX8_monthsToFreedom_16 : decode cX8_monthsToFreedom 16 = .ok (.if_icmp .ge 36, 3) := by decide +kernel
theorem dX8_monthsToFreedom_19 : decode cX8_monthsToFreedom 19 = .ok (.aload_n 0, 1) := by decide +kernel
theorem dX8_monthsToFreedom_20 : decode cX8_monthsToFreedom 20 = .ok (.iload_n 2, 1) := by decide +kernel
theorem dX8_monthsToFreedom_21 : decode cX8_monthsToFreedom 21 = .ok (.invokevirtual 124, 3) := by decide +kernel
theorem dX8_monthsToFreedom_24 : decode cX8_monthsToFreedom 24 = .ok (.istore_n 3, 1) := by decide +kernel
theorem dX8_monthsToFreedom_25 : decode cX8_monthsToFreedom 25 = .ok (.iload_n 3, 1) := by decide +kernel
theorem dX8_monthsToFreedom_26 : decode cX8_monthsToFreedom 26 = .ok (.ifCond .lt 18, 3) := by decide +kernel
theorem dX8_monthsToFreedom_29 : decode cX8_monthsToFreedom 29 = .ok (.aload_n 0, 1) := by decide +kernel
theorem dX8_monthsToFreedom_30 : decode cX8_monthsToFreedom 30 = .ok (.getfield 85, 3) := by decide +kernel
theorem dX8_monthsToFreedom_33 : decode cX8_monthsToFreedom 33 = .ok (.iload_n 1, 1) := by decide +kernel
theorem dX8_monthsToFreedom_34 : decode cX8_monthsToFreedom 34 = .ok (.if_icmp .le 10, 3) := by decide +kernel
theorem dX8_monthsToFreedom_37 : decode cX8_monthsToFreedom 37 = .ok (.aload_n 0, 1) := by decide +kernel
theorem dX8_monthsToFreedom_38 : decode cX8_monthsToFreedom 38 = .ok (.getfield 85, 3) := by decide +kernel
theorem dX8_monthsToFreedom_41 : decode cX8_monthsToFreedom 41 = .ok (.goto 4, 3) := by decide +kernel
theorem dX8_monthsToFreedom_44 : decode cX8_monthsToFreedom 44 = .ok (.iload_n 1, 1) := by decide +kernel
theorem dX8_monthsToFreedom_45 : decode cX8_monthsToFreedom 45 = .ok (.istore_n 1, 1) := by decide +kernel
theorem dX8_monthsToFreedom_46 : decode cX8_monthsToFreedom 46 = .ok (.iinc 2 1, 3) := by decide +kernel
theorem dX8_monthsToFreedom_49 : decode cX8_monthsToFreedom 49 = .ok (.goto (-40), 3) := by decide +kernel
theorem dX8_monthsToFreedom_52 : decode cX8_monthsToFreedom 52 = .ok (.iload_n 1, 1) := by decide +kernel
theorem dX8_monthsToFreedom_53 : decode cX8_monthsToFreedom 53 = .ok (.ireturn, 1) := by decide +kernel
set_option maxRecDepth 20000 in
theorem ggX8_averageRate_X8_of : GoodIn wsX8_averageRate wsX8_of := goodIn_r _ [7, 2, 12, 13, 14, 15, 16, 17, 18, 19, 20, 21, 22, 23, 24, 25, 26, 27, 28, 29, 30, 31, 32, 33, 34, 35, 36, 37, 38, 39, 40] (by decide +kernel) (by decide +kernel)
set_option maxRecDepth 20000 in
theorem gX8_averageRate_X8_of : GoodIn wsX8_averageRate (wsV RX8 70 RX8 yX8_of wsX8_of) := goodIn_app (goodIn_of _ (by decide +kernel)) ggX8_averageRate_X8_of
set_option maxRecDepth 20000 in
theorem ggX8_averageRate_X8_allBalances : GoodIn wsX8_averageRate wsX8_allBalances := goodIn_r _ [11, 2, 3, 4, 5, 6, 7, 12, 13, 14, 15, 16, 17, 18, 19, 20, 21, 22, 23, 24, 25, 26, 27, 28, 29, 30, 31, 32, 33, 34, 35, 36, 37, 38, 39, 40] (by decide +kernel) (by decide +kernel)
set_option maxRecDepth 20000 in
theorem gX8_averageRate_X8_allBalances : GoodIn wsX8_averageRate (wsV RX8 354 RX8 yX8_allBalances wsX8_allBalances) := goodIn_app (goodIn_of _ (by decide +kernel)) ggX8_averageRate_X8_allBalances
theorem dX8_averageRate_0 : decode cX8_averageRate 0 = .ok (.aload_n 0, 1) := by decide +kernel
theorem dX8_averageRate_1 : decode cX8_averageRate 1 = .ok (.iconst 0, 1) := by decide +kernel
theorem dX8_averageRate_2 : decode cX8_averageRate 2 = .ok (.putfield 56, 3) := by decide +kernel
theorem dX8_averageRate_5 : decode cX8_averageRate 5 = .ok (.lconst 0, 1) := by decide +kernel
theorem dX8_averageRate_6 : decode cX8_averageRate 6 = .ok (.lstore_n 1, 1) := by decide +kernel
theorem dX8_averageRate_7 : decode cX8_averageRate 7 = .ok (.iconst 0, 1) := by decide +kernel
theorem dX8_averageRate_8 : decode cX8_averageRate 8 = .ok (.istore_n 3, 1) := by decide +kernel
theorem dX8_averageRate_9 : decode cX8_averageRate 9 = .ok (.iload_n 3, 1) := by decide +kernel
theorem dX8_averageRate_10 : decode cX8_averageRate 10 = .ok (.aload_n 0, 1) := by decide +kernel
theorem dX8_averageRate_11 : decode cX8_averageRate 11 = .ok (.getfield 9, 3) := by decide +kernel
theorem dX8_averageRate_14 : decode cX8_averageRate 14 = .ok (.iconst 0, 1) := by decide +kernel
theorem dX8_averageRate_15 : decode cX8_averageRate 15 = .ok (.iaload, 1) := by decide +kernel
theorem dX8_averageRate_16 : decode cX8_averageRate 16 = .ok (.if_icmp .ge 27, 3) := by decide +kernel
theorem dX8_averageRate_19 : decode cX8_averageRate 19 = .ok (.lload_n 1, 1) := by decide +kernel
theorem dX8_averageRate_20 : decode cX8_averageRate 20 = .ok (.aload_n 0, 1) := by decide +kernel
theorem dX8_averageRate_21 : decode cX8_averageRate 21 = .ok (.iload_n 3, 1) := by decide +kernel
theorem dX8_averageRate_22 : decode cX8_averageRate 22 = .ok (.iconst 1, 1) := by decide +kernel
theorem dX8_averageRate_23 : decode cX8_averageRate 23 = .ok (.invokevirtual 70, 3) := by decide +kernel
theorem dX8_averageRate_26 : decode cX8_averageRate 26 = .ok (.i2l, 1) := by decide +kernel
theorem dX8_averageRate_27 : decode cX8_averageRate 27 = .ok (.aload_n 0, 1) := by decide +kernel
theorem dX8_averageRate_28 : decode cX8_averageRate 28 = .ok (.iload_n 3, 1) := by decide +kernel
theorem dX8_averageRate_29 : decode cX8_averageRate 29 = .ok (.iconst 2, 1) := by decide +kernel
theorem dX8_averageRate_30 : decode cX8_averageRate 30 = .ok (.invokevirtual 70, 3) := by decide +kernel
theorem dX8_averageRate_33 : decode cX8_averageRate 33 = .ok (.i2l, 1) := by decide +kernel
theorem dX8_averageRate_34 : decode cX8_averageRate 34 = .ok (.lmul, 1) := by decide +kernel
theorem dX8_averageRate_35 : decode cX8_averageRate 35 = .ok (.ladd, 1) := by decide +kernel
theorem dX8_averageRate_36 : decode cX8_averageRate 36 = .ok (.lstore_n 1, 1) := by decide +kernel
theorem dX8_averageRate_37 : decode cX8_averageRate 37 = .ok (.iinc 3 1, 3) := by decide +kernel
theorem dX8_averageRate_40 : decode cX8_averageRate 40 = .ok (.goto (-31), 3) := by decide +kernel
theorem dX8_averageRate_43 : decode cX8_averageRate 43 = .ok (.aload_n 0, 1) := by decide +kernel
theorem dX8_averageRate_44 : decode cX8_averageRate 44 = .ok (.invokevirtual 354, 3) := by decide +kernel
theorem dX8_averageRate_47 : decode cX8_averageRate 47 = .ok (.ifCond .ne 7, 3) := by decide +kernel
theorem dX8_averageRate_50 : decode cX8_averageRate 50 = .ok (.dconst 0, 1) := by decide +kernel
theorem dX8_averageRate_51 : decode cX8_averageRate 51 = .ok (.goto 11, 3) := by decide +kernel
theorem dX8_averageRate_54 : decode cX8_averageRate 54 = .ok (.lload_n 1, 1) := by decide +kernel
theorem dX8_averageRate_55 : decode cX8_averageRate 55 = .ok (.l2d, 1) := by decide +kernel
theorem dX8_averageRate_56 : decode cX8_averageRate 56 = .ok (.aload_n 0, 1) := by decide +kernel
theorem dX8_averageRate_57 : decode cX8_averageRate 57 = .ok (.invokevirtual 354, 3) := by decide +kernel
theorem dX8_averageRate_60 : decode cX8_averageRate 60 = .ok (.i2d, 1) := by decide +kernel
theorem dX8_averageRate_61 : decode cX8_averageRate 61 = .ok (.ddiv, 1) := by decide +kernel
theorem dX8_averageRate_62 : decode cX8_averageRate 62 = .ok (.dreturn, 1) := by decide +kernel
set_option maxRecDepth 20000 in
theorem ggX8_closedShare_X8_openLoans : GoodIn wsX8_closedShare wsX8_openLoans := goodIn_r _ [7, 2, 8, 9, 10, 6, 11, 12, 13, 14, 15, 16, 17, 18, 19, 20, 21, 22, 23, 24, 25, 26, 27, 28, 29, 30, 31, 32, 33, 34, 35, 36, 37, 38, 39, 40, 41, 42, 43, 44] (by decide +kernel) (by decide +kernel)
set_option maxRecDepth 20000 in
theorem gX8_closedShare_X8_openLoans : GoodIn wsX8_closedShare (wsV RX8 309 RX8 yX8_openLoans wsX8_openLoans) := goodIn_app (goodIn_of _ (by decide +kernel)) ggX8_closedShare_X8_openLoans
theorem dX8_closedShare_0 : decode cX8_closedShare 0 = .ok (.aload_n 0, 1) := by decide +kernel
theorem dX8_closedShare_1 : decode cX8_closedShare 1 = .ok (.iconst 0, 1) := by decide +kernel
theorem dX8_closedShare_2 : decode cX8_closedShare 2 = .ok (.putfield 56, 3) := by decide +kernel
theorem dX8_closedShare_5 : decode cX8_closedShare 5 = .ok (.aload_n 0, 1) := by decide +kernel
theorem dX8_closedShare_6 : decode cX8_closedShare 6 = .ok (.getfield 9, 3) := by decide +kernel
theorem dX8_closedShare_9 : decode cX8_closedShare 9 = .ok (.iconst 0, 1) := by decide +kernel
theorem dX8_closedShare_10 : decode cX8_closedShare 10 = .ok (.iaload, 1) := by decide +kernel
theorem dX8_closedShare_11 : decode cX8_closedShare 11 = .ok (.ifCond .ne 7, 3) := by decide +kernel
theorem dX8_closedShare_14 : decode cX8_closedShare 14 = .ok (.fconst 0, 1) := by decide +kernel
theorem dX8_closedShare_15 : decode cX8_closedShare 15 = .ok (.goto 23, 3) := by decide +kernel
theorem dX8_closedShare_18 : decode cX8_closedShare 18 = .ok (.aload_n 0, 1) := by decide +kernel
theorem dX8_closedShare_19 : decode cX8_closedShare 19 = .ok (.getfield 9, 3) := by decide +kernel
theorem dX8_closedShare_22 : decode cX8_closedShare 22 = .ok (.iconst 0, 1) := by decide +kernel
theorem dX8_closedShare_23 : decode cX8_closedShare 23 = .ok (.iaload, 1) := by decide +kernel
theorem dX8_closedShare_24 : decode cX8_closedShare 24 = .ok (.aload_n 0, 1) := by decide +kernel
theorem dX8_closedShare_25 : decode cX8_closedShare 25 = .ok (.invokevirtual 309, 3) := by decide +kernel
theorem dX8_closedShare_28 : decode cX8_closedShare 28 = .ok (.isub, 1) := by decide +kernel
theorem dX8_closedShare_29 : decode cX8_closedShare 29 = .ok (.i2f, 1) := by decide +kernel
theorem dX8_closedShare_30 : decode cX8_closedShare 30 = .ok (.aload_n 0, 1) := by decide +kernel
theorem dX8_closedShare_31 : decode cX8_closedShare 31 = .ok (.getfield 9, 3) := by decide +kernel
theorem dX8_closedShare_34 : decode cX8_closedShare 34 = .ok (.iconst 0, 1) := by decide +kernel
theorem dX8_closedShare_35 : decode cX8_closedShare 35 = .ok (.iaload, 1) := by decide +kernel
theorem dX8_closedShare_36 : decode cX8_closedShare 36 = .ok (.i2f, 1) := by decide +kernel
theorem dX8_closedShare_37 : decode cX8_closedShare 37 = .ok (.fdiv, 1) := by decide +kernel
theorem dX8_closedShare_38 : decode cX8_closedShare 38 = .ok (.freturn, 1) := by decide +kernel
set_option maxRecDepth 20000 in
theorem ggX8_violations_X8_of : GoodIn wsX8_violations wsX8_of := goodIn_r _ [8, 2, 40, 41, 42, 43, 44, 45, 46, 47, 48, 49, 50, 51, 52, 53, 54, 55, 56, 57, 58, 59, 60, 61, 62, 63, 64, 65, 66, 67, 68] (by decide +kernel) (by decide +kernel)
set_option maxRecDepth 20000 in
theorem gX8_violations_X8_of : GoodIn wsX8_violations (wsV RX8 70 RX8 yX8_of wsX8_of) := goodIn_app (goodIn_of _ (by decide +kernel)) ggX8_violations_X8_of
set_option maxRecDepth 20000 in
theorem ggX8_violations_X8_isRunning : GoodIn wsX8_violations wsX8_isRunning := goodIn_r _ [12, 4, 5, 6, 7, 8, 2, 40, 41, 42, 43, 44, 45, 46, 47, 48, 49, 50, 51, 52, 53, 54, 55, 56, 57, 58, 59, 60, 61, 62, 63, 64, 65, 66, 67, 68] (by decide +kernel) (by decide +kernel)
set_option maxRecDepth 20000 in
theorem gX8_violations_X8_isRunning : GoodIn wsX8_violations (wsV RX8 130 RX8 yX8_isRunning wsX8_isRunning) := goodIn_app (goodIn_of _ (by decide +kernel)) ggX8_violations_X8_isRunning
set_option maxRecDepth 20000 in
theorem ggX8_violations_X8_ahead : GoodIn wsX8_violations wsX8_ahead := goodIn_r _ [16, 17, 18, 19, 7, 20, 4, 5, 6, 8, 2, 21, 22, 23, 24, 25, 26, 27, 28, 29, 30, 31, 32, 33, 34, 35, 36, 37, 38, 39, 40, 41, 42, 43, 44, 45, 46, 47, 48, 49, 50, 51, 52, 53, 54, 55, 56, 57, 58, 59, 60, 61, 62, 63, 64, 65, 66, 67, 68] (by decide +kernel) (by decide +kernel)
set_option maxRecDepth 20000 in
theorem gX8_violations_X8_ahead : GoodIn wsX8_violations (wsV RX8 124 RX8 yX8_ahead wsX8_ahead) := goodIn_app (goodIn_of _ (by decide +kernel)) ggX8_violations_X8_ahead
theorem dX8_violations_0 : decode cX8_violations 0 = .ok (.aload_n 0, 1) := by decide +kernel
theorem dX8_violations_1 : decode cX8_violations 1 = .ok (.iconst 0, 1) := by decide +kernel
theorem dX8_violations_2 : decode cX8_violations 2 = .ok (.putfield 56, 3) := by decide +kernel
theorem dX8_violations_5 : decode cX8_violations 5 = .ok (.iconst 0, 1) := by decide +kernel
theorem dX8_violations_6 : decode cX8_violations 6 = .ok (.istore_n 1, 1) := by decide +kernel
theorem dX8_violations_7 : decode cX8_violations 7 = .ok (.iconst 0, 1) := by decide +kernel
theorem dX8_violations_8 : decode cX8_violations 8 = .ok (.istore_n 2, 1) := by decide +kernel
theorem dX8_violations_9 : decode cX8_violations 9 = .ok (.iload_n 2, 1) := by decide +kernel
theorem dX8_violations_10 : decode cX8_violations 10 = .ok (.aload_n 0, 1) := by decide +kernel
theorem dX8_violations_11 : decode cX8_violations 11 = .ok (.getfield 9, 3) := by decide +kernel
theorem dX8_violations_14 : decode cX8_violations 14 = .ok (.iconst 0, 1) := by decide +kernel
theorem dX8_violations_15 : decode cX8_violations 15 = .ok (.iaload, 1) := by decide +kernel
theorem dX8_violations_16 : decode cX8_violations 16 = .ok (.if_icmp .ge 106, 3) := by decide +kernel
theorem dX8_violations_19 : decode cX8_violations 19 = .ok (.iload_n 1, 1) := by decide +kernel
theorem dX8_violations_20 : decode cX8_violations 20 = .ok (.aload_n 0, 1) := by decide +kernel
theorem dX8_violations_21 : decode cX8_violations 21 = .ok (.iload_n 2, 1) := by decide +kernel
theorem dX8_violations_22 : decode cX8_violations 22 = .ok (.iconst 0, 1) := by decide +kernel
theorem dX8_violations_23 : decode cX8_violations 23 = .ok (.invokevirtual 70, 3) := by decide +kernel
theorem dX8_violations_26 : decode cX8_violations 26 = .ok (.aload_n 0, 1) := by decide +kernel
theorem dX8_violations_27 : decode cX8_violations 27 = .ok (.iload_n 2, 1) := by decide +kernel
theorem dX8_violations_28 : decode cX8_violations 28 = .ok (.bipush 6, 2) := by decide +kernel
theorem dX8_violations_30 : decode cX8_violations 30 = .ok (.invokevirtual 70, 3) := by decide +kernel
theorem dX8_violations_33 : decode cX8_violations 33 = .ok (.iadd, 1) := by decide +kernel
theorem dX8_violations_34 : decode cX8_violations 34 = .ok (.aload_n 0, 1) := by decide +kernel
theorem dX8_violations_35 : decode cX8_violations 35 = .ok (.iload_n 2, 1) := by decide +kernel
theorem dX8_violations_36 : decode cX8_violations 36 = .ok (.bipush 7, 2) := by decide +kernel
theorem dX8_violations_38 : decode cX8_violations 38 = .ok (.invokevirtual 70, 3) := by decide +kernel
theorem dX8_violations_41 : decode cX8_violations 41 = .ok (.isub, 1) := by decide +kernel
theorem dX8_violations_42 : decode cX8_violations 42 = .ok (.aload_n 0, 1) := by decide +kernel
theorem dX8_violations_43 : decode cX8_violations 43 = .ok (.iload_n 2, 1) := by decide +kernel
theorem dX8_violations_44 : decode cX8_violations 44 = .ok (.iconst 1, 1) := by decide +kernel
theorem dX8_violations_45 : decode cX8_violations 45 = .ok (.invokevirtual 70, 3) := by decide +kernel
theorem dX8_violations_48 : decode cX8_violations 48 = .ok (.if_icmp .ne 7, 3) := by decide +kernel
theorem dX8_violations_51 : decode cX8_violations 51 = .ok (.iconst 0, 1) := by decide +kernel
theorem dX8_violations_52 : decode cX8_violations 52 = .ok (.goto 4, 3) := by decide +kernel
theorem dX8_violations_55 : decode cX8_violations 55 = .ok (.iconst 1, 1) := by decide +kernel
theorem dX8_violations_56 : decode cX8_violations 56 = .ok (.iadd, 1) := by decide +kernel
theorem dX8_violations_57 : decode cX8_violations 57 = .ok (.istore_n 1, 1) := by decide +kernel
theorem dX8_violations_58 : decode cX8_violations 58 = .ok (.iload_n 1, 1) := by decide +kernel
theorem dX8_violations_59 : decode cX8_violations 59 = .ok (.aload_n 0, 1) := by decide +kernel
theorem dX8_violations_60 : decode cX8_violations 60 = .ok (.iload_n 2, 1) := by decide +kernel
theorem dX8_violations_61 : decode cX8_violations 61 = .ok (.iconst 5, 1) := by decide +kernel
theorem dX8_violations_62 : decode cX8_violations 62 = .ok (.invokevirtual 70, 3) := by decide +kernel
theorem dX8_violations_65 : decode cX8_violations 65 = .ok (.ifCond .lt 14, 3) := by decide +kernel
theorem dX8_violations_68 : decode cX8_violations 68 = .ok (.aload_n 0, 1) := by decide +kernel
theorem dX8_violations_69 : decode cX8_violations 69 = .ok (.iload_n 2, 1) := by decide +kernel
theorem dX8_violations_70 : decode cX8_violations 70 = .ok (.iconst 5, 1) := by decide +kernel
theorem dX8_violations_71 : decode cX8_violations 71 = .ok (.invokevirtual 70, 3) := by decide +kernel
theorem dX8_violations_74 : decode cX8_violations 74 = .ok (.ldc 38, 2) := by decide +kernel
theorem dX8_violations_76 : decode cX8_violations 76 = .ok (.if_icmp .lt 7, 3) := by decide +kernel
theorem dX8_violations_79 : decode cX8_violations 79 = .ok (.iconst 1, 1) := by decide +kernel
theorem dX8_violations_80 : decode cX8_violations 80 = .ok (.goto 4, 3) := by decide +kernel
theorem dX8_violations_83 : decode cX8_violations 83 = .ok (.iconst 0, 1) := by decide +kernel
theorem dX8_violations_84 : decode cX8_violations 84 = .ok (.iadd, 1) := by decide +kernel
theorem dX8_violations_85 : decode cX8_violations 85 = .ok (.istore_n 1, 1) := by decide +kernel
theorem dX8_violations_86 : decode cX8_violations 86 = .ok (.iload_n 1, 1) := by decide +kernel
theorem dX8_violations_87 : decode cX8_violations 87 = .ok (.aload_n 0, 1) := by decide +kernel
theorem dX8_violations_88 : decode cX8_violations 88 = .ok (.iload_n 2, 1) := by decide +kernel
theorem dX8_violations_89 : decode cX8_violations 89 = .ok (.invokevirtual 130, 3) := by decide +kernel
theorem dX8_violations_92 : decode cX8_violations 92 = .ok (.ifCond .eq 21, 3) := by decide +kernel
theorem dX8_violations_95 : decode cX8_violations 95 = .ok (.aload_n 0, 1) := by decide +kernel
theorem dX8_violations_96 : decode cX8_violations 96 = .ok (.iload_n 2, 1) := by decide +kernel
theorem dX8_violations_97 : decode cX8_violations 97 = .ok (.invokevirtual 124, 3) := by decide +kernel
theorem dX8_violations_100 : decode cX8_violations 100 = .ok (.aload_n 0, 1) := by decide +kernel
theorem dX8_violations_101 : decode cX8_violations 101 = .ok (.iload_n 2, 1) := by decide +kernel
theorem dX8_violations_102 : decode cX8_violations 102 = .ok (.iconst 4, 1) := by decide +kernel
theorem dX8_violations_103 : decode cX8_violations 103 = .ok (.invokevirtual 70, 3) := by decide +kernel
theorem dX8_violations_106 : decode cX8_violations 106 = .ok (.if_icmp .le 7, 3) := by decide +kernel
theorem dX8_violations_109 : decode cX8_violations 109 = .ok (.iconst 1, 1) := by decide +kernel
theorem dX8_violations_110 : decode cX8_violations 110 = .ok (.goto 4, 3) := by decide +kernel
theorem dX8_violations_113 : decode cX8_violations 113 = .ok (.iconst 0, 1) := by decide +kernel
theorem dX8_violations_114 : decode cX8_violations 114 = .ok (.iadd, 1) := by decide +kernel
theorem dX8_violations_115 : decode cX8_violations 115 = .ok (.istore_n 1, 1) := by decide +kernel
theorem dX8_violations_116 : decode cX8_violations 116 = .ok (.iinc 2 1, 3) := by decide +kernel
theorem dX8_violations_119 : decode cX8_violations 119 = .ok (.goto (-110), 3) := by decide +kernel
theorem dX8_violations_122 : decode cX8_violations 122 = .ok (.iload_n 1, 1) := by decide +kernel
theorem dX8_violations_123 : decode cX8_violations 123 = .ok (.ireturn, 1) := by decide +kernel
theorem dX8_say_0 : decode cX8_say 0 = .ok (.aload_n 0, 1) := by decide +kernel
theorem dX8_say_1 : decode cX8_say 1 = .ok (.getfield 30, 3) := by decide +kernel
theorem dX8_say_4 : decode cX8_say 4 = .ok (.aload_n 0, 1) := by decide +kernel
theorem dX8_say_5 : decode cX8_say 5 = .ok (.getfield 357, 3) := by decide +kernel
theorem dX8_say_8 : decode cX8_say 8 = .ok (.iload_n 1, 1) := by decide +kernel
theorem dX8_say_9 : decode cX8_say 9 = .ok (.i2b, 1) := by decide +kernel
theorem dX8_say_10 : decode cX8_say 10 = .ok (.bastore, 1) := by decide +kernel
theorem dX8_say_11 : decode cX8_say 11 = .ok (.aload_n 0, 1) := by decide +kernel
theorem dX8_say_12 : decode cX8_say 12 = .ok (.dup, 1) := by decide +kernel
theorem dX8_say_13 : decode cX8_say 13 = .ok (.getfield 357, 3) := by decide +kernel
theorem dX8_say_16 : decode cX8_say 16 = .ok (.iconst 1, 1) := by decide +kernel
theorem dX8_say_17 : decode cX8_say 17 = .ok (.iadd, 1) := by decide +kernel
theorem dX8_say_18 : decode cX8_say 18 = .ok (.putfield 357, 3) := by decide +kernel
theorem dX8_say_21 : decode cX8_say 21 = .ok (.return_, 1) := by decide +kernel
set_option maxRecDepth 20000 in
theorem ggX8_sayNumber_X8_say : GoodIn wsX8_sayNumber wsX8_say := goodIn_r _ [5, 6, 7, 8, 9, 10, 11, 12, 13, 14, 15, 16, 17, 18, 19, 20, 21, 22, 23, 24, 25, 26, 27, 28, 29, 30, 31, 32, 33, 34, 35, 36] (by decide +kernel) (by decide +kernel)
set_option maxRecDepth 20000 in
theorem gX8_sayNumber_X8_say : GoodIn wsX8_sayNumber (wsV RX8 360 RX8 yX8_say wsX8_say) := goodIn_app (goodIn_of _ (by decide +kernel)) ggX8_sayNumber_X8_say
theorem dX8_sayNumber_0 : decode cX8_sayNumber 0 = .ok (.iconst 1, 1) := by decide +kernel
theorem dX8_sayNumber_1 : decode cX8_sayNumber 1 = .ok (.istore_n 2, 1) := by decide +kernel
theorem dX8_sayNumber_2 : decode cX8_sayNumber 2 = .ok (.iload_n 1, 1) := by decide +kernel
theorem dX8_sayNumber_3 : decode cX8_sayNumber 3 = .ok (.iload_n 2, 1) := by decide +kernel
theorem dX8_sayNumber_4 : decode cX8_sayNumber 4 = .ok (.idiv, 1) := by decide +kernel
theorem dX8_sayNumber_5 : decode cX8_sayNumber 5 = .ok (.bipush 9, 2) := by decide +kernel
theorem dX8_sayNumber_7 : decode cX8_sayNumber 7 = .ok (.if_icmp .le 11, 3) := by decide +kernel
theorem dX8_sayNumber_10 : decode cX8_sayNumber 10 = .ok (.iload_n 2, 1) := by decide +kernel
theorem dX8_sayNumber_11 : decode cX8_sayNumber 11 = .ok (.bipush 10, 2) := by decide +kernel
theorem dX8_sayNumber_13 : decode cX8_sayNumber 13 = .ok (.imul, 1) := by decide +kernel
theorem dX8_sayNumber_14 : decode cX8_sayNumber 14 = .ok (.istore_n 2, 1) := by decide +kernel
theorem dX8_sayNumber_15 : decode cX8_sayNumber 15 = .ok (.goto (-13), 3) := by decide +kernel
theorem dX8_sayNumber_18 : decode cX8_sayNumber 18 = .ok (.iload_n 2, 1) := by decide +kernel
theorem dX8_sayNumber_19 : decode cX8_sayNumber 19 = .ok (.ifCond .le 24, 3) := by decide +kernel
theorem dX8_sayNumber_22 : decode cX8_sayNumber 22 = .ok (.aload_n 0, 1) := by decide +kernel
theorem dX8_sayNumber_23 : decode cX8_sayNumber 23 = .ok (.bipush 48, 2) := by decide +kernel
theorem dX8_sayNumber_25 : decode cX8_sayNumber 25 = .ok (.iload_n 1, 1) := by decide +kernel
theorem dX8_sayNumber_26 : decode cX8_sayNumber 26 = .ok (.iload_n 2, 1) := by decide +kernel
theorem dX8_sayNumber_27 : decode cX8_sayNumber 27 = .ok (.idiv, 1) := by decide +kernel
theorem dX8_sayNumber_28 : decode cX8_sayNumber 28 = .ok (.bipush 10, 2) := by decide +kernel
theorem dX8_sayNumber_30 : decode cX8_sayNumber 30 = .ok (.irem, 1) := by decide +kernel
theorem dX8_sayNumber_31 : decode cX8_sayNumber 31 = .ok (.iadd, 1) := by decide +kernel
theorem dX8_sayNumber_32 : decode cX8_sayNumber 32 = .ok (.invokevirtual 360, 3) := by decide +kernel
theorem dX8_sayNumber_35 : decode cX8_sayNumber 35 = .ok (.iload_n 2, 1) := by decide +kernel
theorem dX8_sayNumber_36 : decode cX8_sayNumber 36 = .ok (.bipush 10, 2) := by decide +kernel
theorem dX8_sayNumber_38 : decode cX8_sayNumber 38 = .ok (.idiv, 1) := by decide +kernel
theorem dX8_sayNumber_39 : decode cX8_sayNumber 39 = .ok (.istore_n 2, 1) := by decide +kernel
theorem dX8_sayNumber_40 : decode cX8_sayNumber 40 = .ok (.goto (-22), 3) := by decide +kernel
theorem dX8_sayNumber_43 : decode cX8_sayNumber 43 = .ok (.return_, 1) := by decide +kernel
set_option maxRecDepth 20000 in
theorem ggX8_writeSchedule_X8_noLoan : GoodIn wsX8_writeSchedule wsX8_noLoan := goodIn_r _ [10, 11, 12, 13, 14, 9, 15, 1, 45, 46, 47, 48, 49, 50, 51, 52, 53, 54, 55, 56, 57, 58, 59, 60, 61, 62, 63, 64, 65, 66, 67, 68, 69, 70, 71, 72, 73] (by decide +kernel) (by decide +kernel)
set_option maxRecDepth 20000 in
theorem gX8_writeSchedule_X8_noLoan : GoodIn wsX8_writeSchedule (wsV RX8 163 RX8 yX8_noLoan wsX8_noLoan) := goodIn_app (goodIn_of _ (by decide +kernel)) ggX8_writeSchedule_X8_noLoan
set_option maxRecDepth 20000 in
theorem ggX8_writeSchedule_X8_beginWith : GoodIn wsX8_writeSchedule wsX8_beginWith := goodIn_r _ [19, 20, 21, 22, 9, 23, 11, 24, 25, 26, 27, 3, 28, 29, 30, 4, 5, 45, 46, 47, 48, 49, 50, 51, 52, 53, 54, 55, 56, 57, 58, 59, 60, 61, 62, 63, 64, 65, 66, 67, 68, 69, 70, 71, 72, 73] (by decide +kernel) (by decide +kernel)
set_option maxRecDepth 20000 in
theorem gX8_writeSchedule_X8_beginWith : GoodIn wsX8_writeSchedule (wsV RX8 107 RX8 yX8_beginWith wsX8_beginWith) := goodIn_app (goodIn_of _ (by decide +kernel)) ggX8_writeSchedule_X8_beginWith
set_option maxRecDepth 20000 in
theorem ggX8_writeSchedule_X8_of : GoodIn wsX8_writeSchedule wsX8_of := goodIn_r _ [23, 11, 45, 46, 47, 48, 49, 50, 51, 52, 53, 54, 55, 56, 57, 58, 59, 60, 61, 62, 63, 64, 65, 66, 67, 68, 69, 70, 71, 72, 73] (by decide +kernel) (by decide +kernel)
set_option maxRecDepth 20000 in
theorem gX8_writeSchedule_X8_of : GoodIn wsX8_writeSchedule (wsV RX8 70 RX8 yX8_of wsX8_of) := goodIn_app (goodIn_of _ (by decide +kernel)) ggX8_writeSchedule_X8_of
set_option maxRecDepth 20000 in
theorem ggX8_writeSchedule_X8_say : GoodIn wsX8_writeSchedule wsX8_say := goodIn_r _ [34, 35, 2, 45, 46, 47, 48, 49, 50, 51, 52, 53, 54, 55, 56, 57, 58, 59, 60, 61, 62, 63, 64, 65, 66, 67, 68, 69, 70, 71, 72, 73] (by decide +kernel) (by decide +kernel)
set_option maxRecDepth 20000 in
theorem gX8_writeSchedule_X8_say : GoodIn wsX8_writeSchedule (wsV RX8 360 RX8 yX8_say wsX8_say) := goodIn_app (goodIn_of _ (by decide +kernel)) ggX8_writeSchedule_X8_say
set_option maxRecDepth 20000 in
theorem ggX8_writeSchedule_X8_step : GoodIn wsX8_writeSchedule wsX8_step := goodIn_r _ [39, 3, 28, 40, 5, 4, 30, 29, 45, 46, 47, 48, 49, 50, 51, 52, 53, 54, 55, 56, 57, 58, 59, 60, 61, 62, 63, 64, 65, 66, 67, 68, 69, 70, 71, 72, 73] (by decide +kernel) (by decide +kernel)
set_option maxRecDepth 20000 in
theorem gX8_writeSchedule_X8_step : GoodIn wsX8_writeSchedule (wsV RX8 103 RX8 yX8_step wsX8_step) := goodIn_app (goodIn_of _ (by decide +kernel)) ggX8_writeSchedule_X8_step
set_option maxRecDepth 20000 in
theorem ggX8_writeSchedule_X8_sayNumber : GoodIn wsX8_writeSchedule wsX8_sayNumber := goodIn_r _ [44, 31, 32, 33, 9, 34, 35, 2, 45, 46, 47, 48, 49, 50, 51, 52, 53, 54, 55, 56, 57, 58, 59, 60, 61, 62, 63, 64, 65, 66, 67, 68, 69, 70, 71, 72, 73] (by decide +kernel) (by decide +kernel)
set_option maxRecDepth 20000 in
theorem gX8_writeSchedule_X8_sayNumber : GoodIn wsX8_writeSchedule (wsV RX8 363 RX8 yX8_sayNumber wsX8_sayNumber) := goodIn_app (goodIn_of _ (by decide +kernel)) ggX8_writeSchedule_X8_sayNumber
theorem dX8_writeSchedule_0 : decode cX8_writeSchedule 0 = .ok (.aload_n 0, 1) := by decide +kernel
theorem dX8_writeSchedule_1 : decode cX8_writeSchedule 1 = .ok (.iconst 0, 1) := by decide +kernel
theorem dX8_writeSchedule_2 : decode cX8_writeSchedule 2 = .ok (.putfield 56, 3) := by decide +kernel
theorem dX8_writeSchedule_5 : decode cX8_writeSchedule 5 = .ok (.aload_n 0, 1) := by decide +kernel
theorem dX8_writeSchedule_6 : decode cX8_writeSchedule 6 = .ok (.iload_n 1, 1) := by decide +kernel
theorem dX8_writeSchedule_7 : decode cX8_writeSchedule 7 = .ok (.invokevirtual 163, 3) := by decide +kernel
theorem dX8_writeSchedule_10 : decode cX8_writeSchedule 10 = .ok (.ifCond .eq 5, 3) := by decide +kernel
theorem dX8_writeSchedule_13 : decode cX8_writeSchedule 13 = .ok (.iconst 0, 1) := by decide +kernel
theorem dX8_writeSchedule_14 : decode cX8_writeSchedule 14 = .ok (.ireturn, 1) := by decide +kernel
theorem dX8_writeSchedule_15 : decode cX8_writeSchedule 15 = .ok (.aload_n 0, 1) := by decide +kernel
theorem dX8_writeSchedule_16 : decode cX8_writeSchedule 16 = .ok (.iconst 0, 1) := by decide +kernel
theorem dX8_writeSchedule_17 : decode cX8_writeSchedule 17 = .ok (.putfield 357, 3) := by decide +kernel
theorem dX8_writeSchedule_20 : decode cX8_writeSchedule 20 = .ok (.aload_n 0, 1) := by decide +kernel
theorem dX8_writeSchedule_21 : decode cX8_writeSchedule 21 = .ok (.iload_n 1, 1) := by decide +kernel
theorem dX8_writeSchedule_22 : decode cX8_writeSchedule 22 = .ok (.invokevirtual 107, 3) := by decide +kernel
theorem dX8_writeSchedule_25 : decode cX8_writeSchedule 25 = .ok (.aload_n 0, 1) := by decide +kernel
theorem dX8_writeSchedule_26 : decode cX8_writeSchedule 26 = .ok (.iload_n 1, 1) := by decide +kernel
theorem dX8_writeSchedule_27 : decode cX8_writeSchedule 27 = .ok (.iconst 3, 1) := by decide +kernel
theorem dX8_writeSchedule_28 : decode cX8_writeSchedule 28 = .ok (.invokevirtual 70, 3) := by decide +kernel
theorem dX8_writeSchedule_31 : decode cX8_writeSchedule 31 = .ok (.istore_n 2, 1) := by decide +kernel
theorem dX8_writeSchedule_32 : decode cX8_writeSchedule 32 = .ok (.iconst 0, 1) := by decide +kernel
theorem dX8_writeSchedule_33 : decode cX8_writeSchedule 33 = .ok (.istore_n 3, 1) := by decide +kernel
theorem dX8_writeSchedule_34 : decode cX8_writeSchedule 34 = .ok (.iload_n 3, 1) := by decide +kernel
theorem dX8_writeSchedule_35 : decode cX8_writeSchedule 35 = .ok (.bipush 12, 2) := by decide +kernel
theorem dX8_writeSchedule_37 : decode cX8_writeSchedule 37 = .ok (.if_icmp .ge 96, 3) := by decide +kernel
theorem dX8_writeSchedule_40 : decode cX8_writeSchedule 40 = .ok (.aload_n 0, 1) := by decide +kernel
theorem dX8_writeSchedule_41 : decode cX8_writeSchedule 41 = .ok (.getfield 78, 3) := by decide +kernel
theorem dX8_writeSchedule_44 : decode cX8_writeSchedule 44 = .ok (.lconst 0, 1) := by decide +kernel
theorem dX8_writeSchedule_45 : decode cX8_writeSchedule 45 = .ok (.lcmp, 1) := by decide +kernel
theorem dX8_writeSchedule_46 : decode cX8_writeSchedule 46 = .ok (.ifCond .le 87, 3) := by decide +kernel
theorem dX8_writeSchedule_49 : decode cX8_writeSchedule 49 = .ok (.iload_n 3, 1) := by decide +kernel
theorem dX8_writeSchedule_50 : decode cX8_writeSchedule 50 = .ok (.ifCond .le 9, 3) := by decide +kernel
theorem dX8_writeSchedule_53 : decode cX8_writeSchedule 53 = .ok (.aload_n 0, 1) := by decide +kernel
theorem dX8_writeSchedule_54 : decode cX8_writeSchedule 54 = .ok (.bipush 32, 2) := by decide +kernel
theorem dX8_writeSchedule_56 : decode cX8_writeSchedule 56 = .ok (.invokevirtual 360, 3) := by decide +kernel
theorem dX8_writeSchedule_59 : decode cX8_writeSchedule 59 = .ok (.aload_n 0, 1) := by decide +kernel
theorem dX8_writeSchedule_60 : decode cX8_writeSchedule 60 = .ok (.aload_n 0, 1) := by decide +kernel
theorem dX8_writeSchedule_61 : decode cX8_writeSchedule 61 = .ok (.iload_n 1, 1) := by decide +kernel
theorem dX8_writeSchedule_62 : decode cX8_writeSchedule 62 = .ok (.iconst 2, 1) := by decide +kernel
theorem dX8_writeSchedule_63 : decode cX8_writeSchedule 63 = .ok (.invokevirtual 70, 3) := by decide +kernel
theorem dX8_writeSchedule_66 : decode cX8_writeSchedule 66 = .ok (.aload_n 0, 1) := by decide +kernel
theorem dX8_writeSchedule_67 : decode cX8_writeSchedule 67 = .ok (.iload_n 1, 1) := by decide +kernel
theorem dX8_writeSchedule_68 : decode cX8_writeSchedule 68 = .ok (.iconst 4, 1) := by decide +kernel
theorem dX8_writeSchedule_69 : decode cX8_writeSchedule 69 = .ok (.invokevirtual 70, 3) := by decide +kernel
theorem dX8_writeSchedule_72 : decode cX8_writeSchedule 72 = .ok (.i2l, 1) := by decide +kernel
theorem dX8_writeSchedule_73 : decode cX8_writeSchedule 73 = .ok (.iload_n 2, 1) := by decide +kernel
theorem dX8_writeSchedule_74 : decode cX8_writeSchedule 74 = .ok (.iload_n 3, 1) := by decide +kernel
theorem dX8_writeSchedule_75 : decode cX8_writeSchedule 75 = .ok (.isub, 1) := by decide +kernel
theorem dX8_writeSchedule_76 : decode cX8_writeSchedule 76 = .ok (.invokevirtual 103, 3) := by decide +kernel
theorem dX8_writeSchedule_79 : decode cX8_writeSchedule 79 = .ok (.aload_n 0, 1) := by decide +kernel
theorem dX8_writeSchedule_80 : decode cX8_writeSchedule 80 = .ok (.aload_n 0, 1) := by decide +kernel
theorem dX8_writeSchedule_81 : decode cX8_writeSchedule 81 = .ok (.getfield 91, 3) := by decide +kernel
theorem dX8_writeSchedule_84 : decode cX8_writeSchedule 84 = .ok (.l2i, 1) := by decide +kernel
theorem dX8_writeSchedule_85 : decode cX8_writeSchedule 85 = .ok (.invokevirtual 363, 3) := by decide +kernel
theorem dX8_writeSchedule_88 : decode cX8_writeSchedule 88 = .ok (.aload_n 0, 1) := by decide +kernel
theorem dX8_writeSchedule_89 : decode cX8_writeSchedule 89 = .ok (.getfield 94, 3) := by decide +kernel
theorem dX8_writeSchedule_92 : decode cX8_writeSchedule 92 = .ok (.lconst 0, 1) := by decide +kernel
theorem dX8_writeSchedule_93 : decode cX8_writeSchedule 93 = .ok (.lcmp, 1) := by decide +kernel
theorem dX8_writeSchedule_94 : decode cX8_writeSchedule 94 = .ok (.ifCond .le 18, 3) := by decide +kernel
theorem dX8_writeSchedule_97 : decode cX8_writeSchedule 97 = .ok (.aload_n 0, 1) := by decide +kernel
theorem dX8_writeSchedule_98 : decode cX8_writeSchedule 98 = .ok (.bipush 43, 2) := by decide +kernel
theorem dX8_writeSchedule_100 : decode cX8_writeSchedule 100 = .ok (.invokevirtual 360, 3) := by decide +kernel
theorem dX8_writeSchedule_103 : decode cX8_writeSchedule 103 = .ok (.aload_n 0, 1) := by decide +kernel
theorem dX8_writeSchedule_104 : decode cX8_writeSchedule 104 = .ok (.aload_n 0, 1) := by decide +kernel
theorem dX8_writeSchedule_105 : decode cX8_writeSchedule 105 = .ok (.getfield 94, 3) := by decide +kernel
theorem dX8_writeSchedule_108 : decode cX8_writeSchedule 108 = .ok (.l2i, 1) := by decide +kernel
theorem dX8_writeSchedule_109 : decode cX8_writeSchedule 109 = .ok (.invokevirtual 363, 3) := by decide +kernel
theorem dX8_writeSchedule_112 : decode cX8_writeSchedule 112 = .ok (.aload_n 0, 1) := by decide +kernel
theorem dX8_writeSchedule_113 : decode cX8_writeSchedule 113 = .ok (.getfield 78, 3) := by decide +kernel
theorem dX8_writeSchedule_116 : decode cX8_writeSchedule 116 = .ok (.lconst 0, 1) := by decide +kernel
theorem dX8_writeSchedule_117 : decode cX8_writeSchedule 117 = .ok (.lcmp, 1) := by decide +kernel
theorem dX8_writeSchedule_118 : decode cX8_writeSchedule 118 = .ok (.ifCond .ne 9, 3) := by decide +kernel
theorem dX8_writeSchedule_121 : decode cX8_writeSchedule 121 = .ok (.aload_n 0, 1) := by decide +kernel
theorem dX8_writeSchedule_122 : decode cX8_writeSchedule 122 = .ok (.bipush 33, 2) := by decide +kernel
theorem dX8_writeSchedule_124 : decode cX8_writeSchedule 124 = .ok (.invokevirtual 360, 3) := by decide +kernel
theorem dX8_writeSchedule_127 : decode cX8_writeSchedule 127 = .ok (.iinc 3 1, 3) := by decide +kernel
theorem dX8_writeSchedule_130 : decode cX8_writeSchedule 130 = .ok (.goto (-96), 3) := by decide +kernel
theorem dX8_writeSchedule_133 : decode cX8_writeSchedule 133 = .ok (.aload_n 0, 1) := by decide +kernel
theorem dX8_writeSchedule_134 : decode cX8_writeSchedule 134 = .ok (.getfield 357, 3) := by decide +kernel
theorem dX8_writeSchedule_137 : decode cX8_writeSchedule 137 = .ok (.ifCond .ne 9, 3) := by decide +kernel
theorem dX8_writeSchedule_140 : decode cX8_writeSchedule 140 = .ok (.aload_n 0, 1) := by decide +kernel
theorem dX8_writeSchedule_141 : decode cX8_writeSchedule 141 = .ok (.bipush 45, 2) := by decide +kernel
theorem dX8_writeSchedule_143 : decode cX8_writeSchedule 143 = .ok (.invokevirtual 360, 3) := by decide +kernel
theorem dX8_writeSchedule_146 : decode cX8_writeSchedule 146 = .ok (.aload_n 0, 1) := by decide +kernel
theorem dX8_writeSchedule_147 : decode cX8_writeSchedule 147 = .ok (.getfield 357, 3) := by decide +kernel
theorem dX8_writeSchedule_150 : decode cX8_writeSchedule 150 = .ok (.ireturn, 1) := by decide +kernel
theorem dX8_reportByte_0 : decode cX8_reportByte 0 = .ok (.aload_n 0, 1) := by decide +kernel
theorem dX8_reportByte_1 : decode cX8_reportByte 1 = .ok (.iconst 0, 1) := by decide +kernel
theorem dX8_reportByte_2 : decode cX8_reportByte 2 = .ok (.putfield 56, 3) := by decide +kernel
theorem dX8_reportByte_5 : decode cX8_reportByte 5 = .ok (.iload_n 1, 1) := by decide +kernel
theorem dX8_reportByte_6 : decode cX8_reportByte 6 = .ok (.ifCond .lt 11, 3) := by decide +kernel
theorem dX8_reportByte_9 : decode cX8_reportByte 9 = .ok (.iload_n 1, 1) := by decide +kernel
theorem dX8_reportByte_10 : decode cX8_reportByte 10 = .ok (.aload_n 0, 1) := by decide +kernel
theorem dX8_reportByte_11 : decode cX8_reportByte 11 = .ok (.getfield 357, 3) := by decide +kernel
theorem dX8_reportByte_14 : decode cX8_reportByte 14 = .ok (.if_icmp .lt 7, 3) := by decide +kernel
theorem dX8_reportByte_17 : decode cX8_reportByte 17 = .ok (.iconst (-1), 1) := by decide +kernel
theorem dX8_reportByte_18 : decode cX8_reportByte 18 = .ok (.goto 9, 3) := by decide +kernel
theorem dX8_reportByte_21 : decode cX8_reportByte 21 = .ok (.aload_n 0, 1) := by decide +kernel
theorem dX8_reportByte_22 : decode cX8_reportByte 22 = .ok (.getfield 30, 3) := by decide +kernel
theorem dX8_reportByte_25 : decode cX8_reportByte 25 = .ok (.iload_n 1, 1) := by decide +kernel
theorem dX8_reportByte_26 : decode cX8_reportByte 26 = .ok (.baload, 1) := by decide +kernel
theorem dX8_reportByte_27 : decode cX8_reportByte 27 = .ok (.ireturn, 1) := by decide +kernel
theorem dJ9_max_7cf53_0 : decode cJ9_max_7cf53 0 = .ok (.iload_n 0, 1) := by decide +kernel
theorem dJ9_max_7cf53_1 : decode cJ9_max_7cf53 1 = .ok (.iload_n 1, 1) := by decide +kernel
theorem dJ9_max_7cf53_2 : decode cJ9_max_7cf53 2 = .ok (.if_icmp .lt 7, 3) := by decide +kernel
theorem dJ9_max_7cf53_5 : decode cJ9_max_7cf53 5 = .ok (.iload_n 0, 1) := by decide +kernel
theorem dJ9_max_7cf53_6 : decode cJ9_max_7cf53 6 = .ok (.goto 4, 3) := by decide +kernel
theorem dJ9_max_7cf53_9 : decode cJ9_max_7cf53 9 = .ok (.iload_n 1, 1) := by decide +kernel
theorem dJ9_max_7cf53_10 : decode cJ9_max_7cf53 10 = .ok (.ireturn, 1) := by decide +kernel
theorem dJ9_min_7cf53_0 : decode cJ9_min_7cf53 0 = .ok (.iload_n 0, 1) := by decide +kernel
theorem dJ9_min_7cf53_1 : decode cJ9_min_7cf53 1 = .ok (.iload_n 1, 1) := by decide +kernel
theorem dJ9_min_7cf53_2 : decode cJ9_min_7cf53 2 = .ok (.if_icmp .gt 7, 3) := by decide +kernel
theorem dJ9_min_7cf53_5 : decode cJ9_min_7cf53 5 = .ok (.iload_n 0, 1) := by decide +kernel
theorem dJ9_min_7cf53_6 : decode cJ9_min_7cf53 6 = .ok (.goto 4, 3) := by decide +kernel
theorem dJ9_min_7cf53_9 : decode cJ9_min_7cf53 9 = .ok (.iload_n 1, 1) := by decide +kernel
theorem dJ9_min_7cf53_10 : decode cJ9_min_7cf53 10 = .ok (.ireturn, 1) := by decide +kernel
set_option maxRecDepth 20000 in
theorem ggJ0_length_8abf5_J0_coder_7d493 : GoodIn wsJ0_length_8abf5 wsJ0_coder_7d493 := goodIn_r _ [6, 7, 8] (by decide +kernel) (by decide +kernel)
set_option maxRecDepth 20000 in
theorem gJ0_length_8abf5_J0_coder_7d493 : GoodIn wsJ0_length_8abf5 (wsV RJ0 335 RJ0 yJ0_coder_7d493 wsJ0_coder_7d493) := goodIn_app (goodIn_of _ (by decide +kernel)) ggJ0_length_8abf5_J0_coder_7d493
theorem dJ0_length_8abf5_0 : decode cJ0_length_8abf5 0 = .ok (.aload_n 0, 1) := by decide +kernel
theorem dJ0_length_8abf5_1 : decode cJ0_length_8abf5 1 = .ok (.getfield 9, 3) := by decide +kernel
theorem dJ0_length_8abf5_4 : decode cJ0_length_8abf5 4 = .ok (.arraylength, 1) := by decide +kernel
theorem dJ0_length_8abf5_5 : decode cJ0_length_8abf5 5 = .ok (.aload_n 0, 1) := by decide +kernel
theorem dJ0_length_8abf5_6 : decode cJ0_length_8abf5 6 = .ok (.invokevirtual 335, 3) := by decide +kernel
theorem dJ0_length_8abf5_9 : decode cJ0_length_8abf5 9 = .ok (.ishr, 1) := by decide +kernel
theorem dJ0_length_8abf5_10 : decode cJ0_length_8abf5 10 = .ok (.ireturn, 1) := by decide +kernel
set_option maxRecDepth 20000 in
theorem ggJ0_charAt_5068e_J0_isLatin1_aae02 : GoodIn wsJ0_charAt_5068e wsJ0_isLatin1_aae02 := goodIn_r _ [6, 7, 8] (by decide +kernel) (by decide +kernel)
set_option maxRecDepth 20000 in
theorem gJ0_charAt_5068e_J0_isLatin1_aae02 : GoodIn wsJ0_charAt_5068e (wsV RJ0 492 RJ0 yJ0_isLatin1_aae02 wsJ0_isLatin1_aae02) := goodIn_app (goodIn_of _ (by decide +kernel)) ggJ0_charAt_5068e_J0_isLatin1_aae02
set_option maxRecDepth 20000 in
theorem ggJ0_charAt_5068e_J1_charAt_3b067 : GoodIn wsJ0_charAt_5068e wsJ1_charAt_3b067 := goodIn_r _ [12, 13, 14, 5, 15, 16, 17, 18, 19, 20] (by decide +kernel) (by decide +kernel)
set_option maxRecDepth 20000 in
theorem gJ0_charAt_5068e_J1_charAt_3b067 : GoodIn wsJ0_charAt_5068e (va_wsS RJ0 495 yJ1_charAt_3b067 wsJ1_charAt_3b067) := goodIn_app (goodIn_of _ (by decide +kernel)) ggJ0_charAt_5068e_J1_charAt_3b067
set_option maxRecDepth 20000 in
theorem ggJ0_charAt_5068e_J2_charAt_3b067 : GoodIn wsJ0_charAt_5068e wsJ2_charAt_3b067 := goodIn_r _ [24, 25, 26, 23, 27, 28, 29, 30, 31, 14, 5, 15, 16, 17, 18, 19, 20, 32, 33, 34, 35, 36, 37] (by decide +kernel) (by decide +kernel)
set_option maxRecDepth 20000 in
theorem gJ0_charAt_5068e_J2_charAt_3b067 : GoodIn wsJ0_charAt_5068e (va_wsS RJ0 498 yJ2_charAt_3b067 wsJ2_charAt_3b067) := goodIn_app (goodIn_of _ (by decide +kernel)) ggJ0_charAt_5068e_J2_charAt_3b067
theorem dJ0_charAt_5068e_0 : decode cJ0_charAt_5068e 0 = .ok (.aload_n 0, 1) := by decide +kernel
theorem dJ0_charAt_5068e_1 : decode cJ0_charAt_5068e 1 = .ok (.invokevirtual 492, 3) := by decide +kernel
theorem dJ0_charAt_5068e_4 : decode cJ0_charAt_5068e 4 = .ok (.ifCond .eq 12, 3) := by decide +kernel
theorem dJ0_charAt_5068e_7 : decode cJ0_charAt_5068e 7 = .ok (.aload_n 0, 1) := by decide +kernel
theorem dJ0_charAt_5068e_8 : decode cJ0_charAt_5068e 8 = .ok (.getfield 9, 3) := by decide +kernel
theorem dJ0_charAt_5068e_11 : decode cJ0_charAt_5068e 11 = .ok (.iload_n 1, 1) := by decide +kernel
theorem dJ0_charAt_5068e_12 : decode cJ0_charAt_5068e 12 = .ok (.invokestatic 495, 3) := by decide +kernel
theorem dJ0_charAt_5068e_15 : decode cJ0_charAt_5068e 15 = .ok (.ireturn, 1) := by decide +kernel
theorem dJ0_charAt_5068e_16 : decode cJ0_charAt_5068e 16 = .ok (.aload_n 0, 1) := by decide +kernel
theorem dJ0_charAt_5068e_17 : decode cJ0_charAt_5068e 17 = .ok (.getfield 9, 3) := by decide +kernel
theorem dJ0_charAt_5068e_20 : decode cJ0_charAt_5068e 20 = .ok (.iload_n 1, 1) := by decide +kernel
theorem dJ0_charAt_5068e_21 : decode cJ0_charAt_5068e 21 = .ok (.invokestatic 498, 3) := by decide +kernel
theorem dJ0_charAt_5068e_24 : decode cJ0_charAt_5068e 24 = .ok (.ireturn, 1) := by decide +kernel
theorem dJ0_coder_7d493_0 : decode cJ0_coder_7d493 0 = .ok (.getstatic 38, 3) := by decide +kernel
theorem dJ0_coder_7d493_3 : decode cJ0_coder_7d493 3 = .ok (.ifCond .eq 10, 3) := by decide +kernel
theorem dJ0_coder_7d493_6 : decode cJ0_coder_7d493 6 = .ok (.aload_n 0, 1) := by decide +kernel
theorem dJ0_coder_7d493_7 : decode cJ0_coder_7d493 7 = .ok (.getfield 15, 3) := by decide +kernel
theorem dJ0_coder_7d493_10 : decode cJ0_coder_7d493 10 = .ok (.goto 4, 3) := by decide +kernel
theorem dJ0_coder_7d493_13 : decode cJ0_coder_7d493 13 = .ok (.iconst 1, 1) := by decide +kernel
theorem dJ0_coder_7d493_14 : decode cJ0_coder_7d493 14 = .ok (.ireturn, 1) := by decide +kernel
theorem dJ0_isLatin1_aae02_0 : decode cJ0_isLatin1_aae02 0 = .ok (.getstatic 38, 3) := by decide +kernel
theorem dJ0_isLatin1_aae02_3 : decode cJ0_isLatin1_aae02 3 = .ok (.ifCond .eq 14, 3) := by decide +kernel
theorem dJ0_isLatin1_aae02_6 : decode cJ0_isLatin1_aae02 6 = .ok (.aload_n 0, 1) := by decide +kernel
theorem dJ0_isLatin1_aae02_7 : decode cJ0_isLatin1_aae02 7 = .ok (.getfield 15, 3) := by decide +kernel
theorem dJ0_isLatin1_aae02_10 : decode cJ0_isLatin1_aae02 10 = .ok (.ifCond .ne 7, 3) := by decide +kernel
theorem dJ0_isLatin1_aae02_13 : decode cJ0_isLatin1_aae02 13 = .ok (.iconst 1, 1) := by decide +kernel
theorem dJ0_isLatin1_aae02_14 : decode cJ0_isLatin1_aae02 14 = .ok (.goto 4, 3) := by decide +kernel
theorem dJ0_isLatin1_aae02_17 : decode cJ0_isLatin1_aae02 17 = .ok (.iconst 0, 1) := by decide +kernel
theorem dJ0_isLatin1_aae02_18 : decode cJ0_isLatin1_aae02 18 = .ok (.ireturn, 1) := by decide +kernel
set_option maxRecDepth 20000 in
theorem ggJ0_checkIndex_df160_J3_checkIndex_8e157 : GoodIn wsJ0_checkIndex_df160 wsJ3_checkIndex_8e157 := goodIn_r _ [5] (by decide +kernel) (by decide +kernel)
set_option maxRecDepth 20000 in
theorem gJ0_checkIndex_df160_J3_checkIndex_8e157 : GoodIn wsJ0_checkIndex_df160 (va_wsS RJ0 1059 yJ3_checkIndex_8e157 wsJ3_checkIndex_8e157) := goodIn_app (goodIn_of _ (by decide +kernel)) ggJ0_checkIndex_df160_J3_checkIndex_8e157
theorem dJ0_checkIndex_df160_0 : decode cJ0_checkIndex_df160 0 = .ok (.iload_n 0, 1) := by decide +kernel
theorem dJ0_checkIndex_df160_1 : decode cJ0_checkIndex_df160 1 = .ok (.iload_n 1, 1) := by decide +kernel
theorem dJ0_checkIndex_df160_2 : decode cJ0_checkIndex_df160 2 = .ok (.getstatic 1053, 3) := by decide +kernel
theorem dJ0_checkIndex_df160_5 : decode cJ0_checkIndex_df160 5 = .ok (.invokestatic 1059, 3) := by decide +kernel
theorem dJ0_checkIndex_df160_8 : decode cJ0_checkIndex_df160 8 = .ok (.pop, 1) := by decide +kernel
theorem dJ0_checkIndex_df160_9 : decode cJ0_checkIndex_df160 9 = .ok (.return_, 1) := by decide +kernel
set_option maxRecDepth 20000 in
theorem ggJ1_charAt_3b067_J0_checkIndex_df160 : GoodIn wsJ1_charAt_3b067 wsJ0_checkIndex_df160 := goodIn_r _ [4, 5, 6, 7, 8, 9] (by decide +kernel) (by decide +kernel)
set_option maxRecDepth 20000 in
theorem gJ1_charAt_3b067_J0_checkIndex_df160 : GoodIn wsJ1_charAt_3b067 (va_wsS RJ1 9 yJ0_checkIndex_df160 wsJ0_checkIndex_df160) := goodIn_app (goodIn_of _ (by decide +kernel)) ggJ1_charAt_3b067_J0_checkIndex_df160
theorem dJ1_charAt_3b067_0 : decode cJ1_charAt_3b067 0 = .ok (.iload_n 1, 1) := by decide +kernel
theorem dJ1_charAt_3b067_1 : decode cJ1_charAt_3b067 1 = .ok (.aload_n 0, 1) := by decide +kernel
theorem dJ1_charAt_3b067_2 : decode cJ1_charAt_3b067 2 = .ok (.arraylength, 1) := by decide +kernel
theorem dJ1_charAt_3b067_3 : decode cJ1_charAt_3b067 3 = .ok (.invokestatic 9, 3) := by decide +kernel
theorem dJ1_charAt_3b067_6 : decode cJ1_charAt_3b067 6 = .ok (.aload_n 0, 1) := by decide +kernel
theorem dJ1_charAt_3b067_7 : decode cJ1_charAt_3b067 7 = .ok (.iload_n 1, 1) := by decide +kernel
theorem dJ1_charAt_3b067_8 : decode cJ1_charAt_3b067 8 = .ok (.baload, 1) := by decide +kernel
theorem dJ1_charAt_3b067_9 : decode cJ1_charAt_3b067 9 = .ok (.sipush 255, 3) := by decide +kernel
theorem dJ1_charAt_3b067_12 : decode cJ1_charAt_3b067 12 = .ok (.iand, 1) := by decide +kernel
theorem dJ1_charAt_3b067_13 : decode cJ1_charAt_3b067 13 = .ok (.i2c, 1) := by decide +kernel
theorem dJ1_charAt_3b067_14 : decode cJ1_charAt_3b067 14 = .ok (.ireturn, 1) := by decide +kernel
set_option maxRecDepth 20000 in
theorem ggJ2_getChar_3b067_J2_length_9d52b : GoodIn wsJ2_getChar_3b067 wsJ2_length_9d52b := goodIn_r _ [7] (by decide +kernel) (by decide +kernel)
set_option maxRecDepth 20000 in
theorem gJ2_getChar_3b067_J2_length_9d52b : GoodIn wsJ2_getChar_3b067 (va_wsS RJ2 48 yJ2_length_9d52b wsJ2_length_9d52b) := goodIn_app (goodIn_of _ (by decide +kernel)) ggJ2_getChar_3b067_J2_length_9d52b
theorem dJ2_getChar_3b067_0 : decode cJ2_getChar_3b067 0 = .ok (.getstatic 44, 3) := by decide +kernel
theorem dJ2_getChar_3b067_3 : decode cJ2_getChar_3b067 3 = .ok (.ifCond .ne 25, 3) := by decide +kernel
theorem dJ2_getChar_3b067_6 : decode cJ2_getChar_3b067 6 = .ok (.iload_n 1, 1) := by decide +kernel
theorem dJ2_getChar_3b067_7 : decode cJ2_getChar_3b067 7 = .ok (.ifCond .lt 11, 3) := by decide +kernel
theorem dJ2_getChar_3b067_10 : decode cJ2_getChar_3b067 10 = .ok (.iload_n 1, 1) := by decide +kernel
theorem dJ2_getChar_3b067_11 : decode cJ2_getChar_3b067 11 = .ok (.aload_n 0, 1) := by decide +kernel
theorem dJ2_getChar_3b067_12 : decode cJ2_getChar_3b067 12 = .ok (.invokestatic 48, 3) := by decide +kernel
theorem dJ2_getChar_3b067_15 : decode cJ2_getChar_3b067 15 = .ok (.if_icmp .lt 13, 3) := by decide +kernel
theorem dJ2_getChar_3b067_18 : decode cJ2_getChar_3b067 18 = .ok (.new 52, 3) := by decide +kernel
theorem dJ2_getChar_3b067_21 : decode cJ2_getChar_3b067 21 = .ok (.dup, 1) := by decide +kernel
theorem dJ2_getChar_3b067_22 : decode cJ2_getChar_3b067 22 = .ok (.ldc 54, 2) := by decide +kernel
theorem dJ2_getChar_3b067_24 : decode cJ2_getChar_3b067 24 = .ok (.invokespecial 56, 3) := by decide +kernel
theorem dJ2_getChar_3b067_27 : decode cJ2_getChar_3b067 27 = .ok (.athrow, 1) := by decide +kernel
theorem dJ2_getChar_3b067_28 : decode cJ2_getChar_3b067 28 = .ok (.iload_n 1, 1) := by decide +kernel
theorem dJ2_getChar_3b067_29 : decode cJ2_getChar_3b067 29 = .ok (.iconst 1, 1) := by decide +kernel
theorem dJ2_getChar_3b067_30 : decode cJ2_getChar_3b067 30 = .ok (.ishl, 1) := by decide +kernel
theorem dJ2_getChar_3b067_31 : decode cJ2_getChar_3b067 31 = .ok (.istore_n 1, 1) := by decide +kernel
theorem dJ2_getChar_3b067_32 : decode cJ2_getChar_3b067 32 = .ok (.aload_n 0, 1) := by decide +kernel
theorem dJ2_getChar_3b067_33 : decode cJ2_getChar_3b067 33 = .ok (.iload_n 1, 1) := by decide +kernel
theorem dJ2_getChar_3b067_34 : decode cJ2_getChar_3b067 34 = .ok (.iinc 1 1, 3) := by decide +kernel
theorem dJ2_getChar_3b067_37 : decode cJ2_getChar_3b067 37 = .ok (.baload, 1) := by decide +kernel
theorem dJ2_getChar_3b067_38 : decode cJ2_getChar_3b067 38 = .ok (.sipush 255, 3) := by decide +kernel
theorem dJ2_getChar_3b067_41 : decode cJ2_getChar_3b067 41 = .ok (.iand, 1) := by decide +kernel
theorem dJ2_getChar_3b067_42 : decode cJ2_getChar_3b067 42 = .ok (.getstatic 59, 3) := by decide +kernel
theorem dJ2_getChar_3b067_45 : decode cJ2_getChar_3b067 45 = .ok (.ishl, 1) := by decide +kernel
theorem dJ2_getChar_3b067_46 : decode cJ2_getChar_3b067 46 = .ok (.aload_n 0, 1) := by decide +kernel
theorem dJ2_getChar_3b067_47 : decode cJ2_getChar_3b067 47 = .ok (.iload_n 1, 1) := by decide +kernel
theorem dJ2_getChar_3b067_48 : decode cJ2_getChar_3b067 48 = .ok (.baload, 1) := by decide +kernel
theorem dJ2_getChar_3b067_49 : decode cJ2_getChar_3b067 49 = .ok (.sipush 255, 3) := by decide +kernel
theorem dJ2_getChar_3b067_52 : decode cJ2_getChar_3b067 52 = .ok (.iand, 1) := by decide +kernel
theorem dJ2_getChar_3b067_53 : decode cJ2_getChar_3b067 53 = .ok (.getstatic 63, 3) := by decide +kernel
theorem dJ2_getChar_3b067_56 : decode cJ2_getChar_3b067 56 = .ok (.ishl, 1) := by decide +kernel
theorem dJ2_getChar_3b067_57 : decode cJ2_getChar_3b067 57 = .ok (.ior, 1) := by decide +kernel
theorem dJ2_getChar_3b067_58 : decode cJ2_getChar_3b067 58 = .ok (.i2c, 1) := by decide +kernel
theorem dJ2_getChar_3b067_59 : decode cJ2_getChar_3b067 59 = .ok (.ireturn, 1) := by decide +kernel
theorem dJ2_length_9d52b_0 : decode cJ2_length_9d52b 0 = .ok (.aload_n 0, 1) := by decide +kernel
theorem dJ2_length_9d52b_1 : decode cJ2_length_9d52b 1 = .ok (.arraylength, 1) := by decide +kernel
theorem dJ2_length_9d52b_2 : decode cJ2_length_9d52b 2 = .ok (.iconst 1, 1) := by decide +kernel
theorem dJ2_length_9d52b_3 : decode cJ2_length_9d52b 3 = .ok (.ishr, 1) := by decide +kernel
theorem dJ2_length_9d52b_4 : decode cJ2_length_9d52b 4 = .ok (.ireturn, 1) := by decide +kernel
set_option maxRecDepth 20000 in
theorem ggJ2_charAt_3b067_J2_checkIndex_2214a : GoodIn wsJ2_charAt_3b067 wsJ2_checkIndex_2214a := goodIn_r _ [4, 5, 6, 3, 7, 8, 9, 10, 11, 12, 13, 14, 15, 16] (by decide +kernel) (by decide +kernel)
set_option maxRecDepth 20000 in
theorem gJ2_charAt_3b067_J2_checkIndex_2214a : GoodIn wsJ2_charAt_3b067 (va_wsS RJ2 67 yJ2_checkIndex_2214a wsJ2_checkIndex_2214a) := goodIn_app (goodIn_of _ (by decide +kernel)) ggJ2_charAt_3b067_J2_checkIndex_2214a
set_option maxRecDepth 20000 in
theorem ggJ2_charAt_3b067_J2_getChar_3b067 : GoodIn wsJ2_charAt_3b067 wsJ2_getChar_3b067 := goodIn_r _ [19, 20, 21, 22, 5, 6, 3, 7] (by decide +kernel) (by decide +kernel)
set_option maxRecDepth 20000 in
theorem gJ2_charAt_3b067_J2_getChar_3b067 : GoodIn wsJ2_charAt_3b067 (va_wsS RJ2 71 yJ2_getChar_3b067 wsJ2_getChar_3b067) := goodIn_app (goodIn_of _ (by decide +kernel)) ggJ2_charAt_3b067_J2_getChar_3b067
theorem dJ2_charAt_3b067_0 : decode cJ2_charAt_3b067 0 = .ok (.iload_n 1, 1) := by decide +kernel
theorem dJ2_charAt_3b067_1 : decode cJ2_charAt_3b067 1 = .ok (.aload_n 0, 1) := by decide +kernel
theorem dJ2_charAt_3b067_2 : decode cJ2_charAt_3b067 2 = .ok (.invokestatic 67, 3) := by decide +kernel
theorem dJ2_charAt_3b067_5 : decode cJ2_charAt_3b067 5 = .ok (.aload_n 0, 1) := by decide +kernel
theorem dJ2_charAt_3b067_6 : decode cJ2_charAt_3b067 6 = .ok (.iload_n 1, 1) := by decide +kernel
theorem dJ2_charAt_3b067_7 : decode cJ2_charAt_3b067 7 = .ok (.invokestatic 71, 3) := by decide +kernel
theorem dJ2_charAt_3b067_10 : decode cJ2_charAt_3b067 10 = .ok (.ireturn, 1) := by decide +kernel
set_option maxRecDepth 20000 in
theorem ggJ2_checkIndex_2214a_J2_length_9d52b : GoodIn wsJ2_checkIndex_2214a wsJ2_length_9d52b := goodIn_r _ [4] (by decide +kernel) (by decide +kernel)
set_option maxRecDepth 20000 in
theorem gJ2_checkIndex_2214a_J2_length_9d52b : GoodIn wsJ2_checkIndex_2214a (va_wsS RJ2 48 yJ2_length_9d52b wsJ2_length_9d52b) := goodIn_app (goodIn_of _ (by decide +kernel)) ggJ2_checkIndex_2214a_J2_length_9d52b
set_option maxRecDepth 20000 in
theorem ggJ2_checkIndex_2214a_J0_checkIndex_df160 : GoodIn wsJ2_checkIndex_2214a wsJ0_checkIndex_df160 := goodIn_r _ [8, 9, 10, 11, 12, 13] (by decide +kernel) (by decide +kernel)
set_option maxRecDepth 20000 in
theorem gJ2_checkIndex_2214a_J0_checkIndex_df160 : GoodIn wsJ2_checkIndex_2214a (va_wsS RJ2 414 yJ0_checkIndex_df160 wsJ0_checkIndex_df160) := goodIn_app (goodIn_of _ (by decide +kernel)) ggJ2_checkIndex_2214a_J0_checkIndex_df160
theorem dJ2_checkIndex_2214a_0 : decode cJ2_checkIndex_2214a 0 = .ok (.iload_n 0, 1) := by decide +kernel
theorem dJ2_checkIndex_2214a_1 : decode cJ2_checkIndex_2214a 1 = .ok (.aload_n 1, 1) := by decide +kernel
theorem dJ2_checkIndex_2214a_2 : decode cJ2_checkIndex_2214a 2 = .ok (.invokestatic 48, 3) := by decide +kernel
theorem dJ2_checkIndex_2214a_5 : decode cJ2_checkIndex_2214a 5 = .ok (.invokestatic 414, 3) := by decide +kernel
theorem dJ2_checkIndex_2214a_8 : decode cJ2_checkIndex_2214a 8 = .ok (.return_, 1) := by decide +kernel
theorem dJ3_checkIndex_8e157_0 : decode cJ3_checkIndex_8e157 0 = .ok (.iload_n 0, 1) := by decide +kernel
theorem dJ3_checkIndex_8e157_1 : decode cJ3_checkIndex_8e157 1 = .ok (.ifCond .lt 8, 3) := by decide +kernel
theorem dJ3_checkIndex_8e157_4 : decode cJ3_checkIndex_8e157 4 = .ok (.iload_n 0, 1) := by decide +kernel
theorem dJ3_checkIndex_8e157_5 : decode cJ3_checkIndex_8e157 5 = .ok (.iload_n 1, 1) := by decide +kernel
theorem dJ3_checkIndex_8e157_6 : decode cJ3_checkIndex_8e157 6 = .ok (.if_icmp .lt 10, 3) := by decide +kernel
theorem dJ3_checkIndex_8e157_9 : decode cJ3_checkIndex_8e157 9 = .ok (.aload_n 2, 1) := by decide +kernel
theorem dJ3_checkIndex_8e157_10 : decode cJ3_checkIndex_8e157 10 = .ok (.iload_n 0, 1) := by decide +kernel
theorem dJ3_checkIndex_8e157_11 : decode cJ3_checkIndex_8e157 11 = .ok (.iload_n 1, 1) := by decide +kernel
theorem dJ3_checkIndex_8e157_12 : decode cJ3_checkIndex_8e157 12 = .ok (.invokestatic 95, 3) := by decide +kernel
theorem dJ3_checkIndex_8e157_15 : decode cJ3_checkIndex_8e157 15 = .ok (.athrow, 1) := by decide +kernel
theorem dJ3_checkIndex_8e157_16 : decode cJ3_checkIndex_8e157 16 = .ok (.iload_n 0, 1) := by decide +kernel
theorem dJ3_checkIndex_8e157_17 : decode cJ3_checkIndex_8e157 17 = .ok (.ireturn, 1) := by decide +kernel
set_option maxRecDepth 20000 in
theorem ggL_truncateInput_X7_truncateInput : GoodIn wsL_truncateInput wsX7_truncateInput := goodIn_ca (goodIn_r _ [6, 7, 8, 9, 5, 10, 11, 12, 13, 14, 15, 16, 17, 18, 19, 20, 21, 22, 23] (by decide +kernel) (by decide +kernel)) (goodIn_sub (fun _ h => List.mem_cons_of_mem _ (List.mem_append_right _ h)) (by decide +kernel))
set_option maxRecDepth 20000 in
theorem gL_truncateInput_X7_truncateInput : GoodIn wsL_truncateInput (wsV RL 7 RX7 yX7_truncateInput wsX7_truncateInput) := goodIn_app (goodIn_of _ (by decide +kernel)) ggL_truncateInput_X7_truncateInput
theorem dL_truncateInput_0 : decode cL_truncateInput 0 = .ok (.aload_n 2, 1) := by decide +kernel
theorem dL_truncateInput_1 : decode cL_truncateInput 1 = .ok (.iconst 0, 1) := by decide +kernel
theorem dL_truncateInput_2 : decode cL_truncateInput 2 = .ok (.aload_n 0, 1) := by decide +kernel
theorem dL_truncateInput_3 : decode cL_truncateInput 3 = .ok (.iload_n 1, 1) := by decide +kernel
theorem dL_truncateInput_4 : decode cL_truncateInput 4 = .ok (.invokevirtual 7, 3) := by decide +kernel
theorem dL_truncateInput_7 : decode cL_truncateInput 7 = .ok (.i2l, 1) := by decide +kernel
theorem dL_truncateInput_8 : decode cL_truncateInput 8 = .ok (.lastore, 1) := by decide +kernel
theorem dL_truncateInput_9 : decode cL_truncateInput 9 = .ok (.goto 6, 3) := by decide +kernel
theorem dL_truncateInput_12 : decode cL_truncateInput 12 = .ok (.astore_n 3, 1) := by decide +kernel
theorem dL_truncateInput_13 : decode cL_truncateInput 13 = .ok (.iconst 1, 1) := by decide +kernel
theorem dL_truncateInput_14 : decode cL_truncateInput 14 = .ok (.ireturn, 1) := by decide +kernel
theorem dL_truncateInput_15 : decode cL_truncateInput 15 = .ok (.iconst 0, 1) := by decide +kernel
theorem dL_truncateInput_16 : decode cL_truncateInput 16 = .ok (.ireturn, 1) := by decide +kernel
set_option maxRecDepth 20000 in
theorem ggL_openLoan_X7_openLoan : GoodIn wsL_openLoan wsX7_openLoan := goodIn_ca (goodIn_ca (goodIn_r _ [7, 8, 9, 10, 11, 12, 13, 6, 14, 15, 16, 17, 18, 19, 20, 21, 22, 23, 24, 25, 26, 27, 28, 29, 30, 31, 32, 33, 34, 35, 36, 37, 38, 39, 40, 41, 42, 43, 44, 45, 46, 47, 48, 49, 50, 51, 52, 53, 54, 55, 56, 57, 58, 59, 60, 61, 62, 63, 64, 65, 66, 67, 68, 69, 70, 71, 72, 73, 74, 75, 76, 77, 78, 79, 80, 81, 82, 83, 84, 85, 86, 87, 88, 89, 90, 91, 92, 93, 94, 95, 96, 97, 98, 99, 100, 101, 102, 103, 104, 105, 106, 107, 108, 109, 110, 111, 112, 113, 114, 115, 116, 117, 118, 119, 120, 121, 122, 123, 124, 125, 126, 127] (by decide +kernel) (by decide +kernel)) (goodIn_sub (fun _ h => List.mem_cons_of_mem _ (List.mem_append_left _ (List.mem_append_right _ h))) (by decide +kernel))) (goodIn_sub (fun _ h => List.mem_cons_of_mem _ (List.mem_append_right _ h)) (by decide +kernel))
set_option maxRecDepth 20000 in
theorem gL_openLoan_X7_openLoan : GoodIn wsL_openLoan (wsV RL 15 RX7 yX7_openLoan wsX7_openLoan) := goodIn_app (goodIn_of _ (by decide +kernel)) ggL_openLoan_X7_openLoan
theorem dL_openLoan_0 : decode cL_openLoan 0 = .ok (.aload 4, 2) := by decide +kernel
theorem dL_openLoan_2 : decode cL_openLoan 2 = .ok (.iconst 0, 1) := by decide +kernel
theorem dL_openLoan_3 : decode cL_openLoan 3 = .ok (.aload_n 0, 1) := by decide +kernel
theorem dL_openLoan_4 : decode cL_openLoan 4 = .ok (.iload_n 1, 1) := by decide +kernel
theorem dL_openLoan_5 : decode cL_openLoan 5 = .ok (.iload_n 2, 1) := by decide +kernel
theorem dL_openLoan_6 : decode cL_openLoan 6 = .ok (.iload_n 3, 1) := by decide +kernel
theorem dL_openLoan_7 : decode cL_openLoan 7 = .ok (.invokevirtual 15, 3) := by decide +kernel
theorem dL_openLoan_10 : decode cL_openLoan 10 = .ok (.i2l, 1) := by decide +kernel
theorem dL_openLoan_11 : decode cL_openLoan 11 = .ok (.lastore, 1) := by decide +kernel
theorem dL_openLoan_12 : decode cL_openLoan 12 = .ok (.goto 11, 3) := by decide +kernel
theorem dL_openLoan_15 : decode cL_openLoan 15 = .ok (.astore 5, 2) := by decide +kernel
theorem dL_openLoan_17 : decode cL_openLoan 17 = .ok (.iconst 1, 1) := by decide +kernel
theorem dL_openLoan_18 : decode cL_openLoan 18 = .ok (.ireturn, 1) := by decide +kernel
theorem dL_openLoan_19 : decode cL_openLoan 19 = .ok (.astore 5, 2) := by decide +kernel
theorem dL_openLoan_21 : decode cL_openLoan 21 = .ok (.iconst 2, 1) := by decide +kernel
theorem dL_openLoan_22 : decode cL_openLoan 22 = .ok (.ireturn, 1) := by decide +kernel
theorem dL_openLoan_23 : decode cL_openLoan 23 = .ok (.iconst 0, 1) := by decide +kernel
theorem dL_openLoan_24 : decode cL_openLoan 24 = .ok (.ireturn, 1) := by decide +kernel
set_option maxRecDepth 20000 in
theorem ggL_pay_X7_pay : GoodIn wsL_pay wsX7_pay := goodIn_ca (goodIn_ca (goodIn_r _ [7, 8, 9, 10, 11, 12, 6, 13, 14, 15, 16, 17, 18, 19, 20, 21, 22, 23, 24, 25, 26, 27, 28, 29, 30, 31, 32, 33, 34, 35, 36, 37, 38, 39, 40, 41, 42, 43, 44, 45, 46, 47, 48, 49, 50, 51, 52, 53, 54, 55, 56, 57, 58, 59, 60, 61, 62, 63, 64, 65, 66, 67, 68, 69, 70, 71, 72, 73, 74, 75, 76, 77, 78, 79, 80, 81, 82, 83, 84, 85, 86, 87, 88, 89, 90, 91, 92, 93, 94, 95, 96, 97, 98, 99, 100, 101, 102, 103, 104, 105, 106, 107, 108, 109, 110, 111, 112, 113, 114, 115, 116, 117, 118, 119, 120, 121, 122, 123, 124, 125, 126, 127, 128, 129, 130, 131, 132, 133, 134, 135, 136, 137, 138, 139, 140, 141] (by decide +kernel) (by decide +kernel)) (goodIn_sub (fun _ h => List.mem_cons_of_mem _ (List.mem_append_left _ (List.mem_append_right _ h))) (by decide +kernel))) (goodIn_sub (fun _ h => List.mem_cons_of_mem _ (List.mem_append_right _ h)) (by decide +kernel))
set_option maxRecDepth 20000 in
theorem gL_pay_X7_pay : GoodIn wsL_pay (wsV RL 21 RX7 yX7_pay wsX7_pay) := goodIn_app (goodIn_of _ (by decide +kernel)) ggL_pay_X7_pay
theorem dL_pay_0 : decode cL_pay 0 = .ok (.aload_n 2, 1) := by decide +kernel
theorem dL_pay_1 : decode cL_pay 1 = .ok (.iconst 0, 1) := by decide +kernel
theorem dL_pay_2 : decode cL_pay 2 = .ok (.aload_n 0, 1) := by decide +kernel
theorem dL_pay_3 : decode cL_pay 3 = .ok (.iload_n 1, 1) := by decide +kernel
theorem dL_pay_4 : decode cL_pay 4 = .ok (.invokevirtual 21, 3) := by decide +kernel
theorem dL_pay_7 : decode cL_pay 7 = .ok (.i2l, 1) := by decide +kernel
theorem dL_pay_8 : decode cL_pay 8 = .ok (.lastore, 1) := by decide +kernel
theorem dL_pay_9 : decode cL_pay 9 = .ok (.goto 9, 3) := by decide +kernel
theorem dL_pay_12 : decode cL_pay 12 = .ok (.astore_n 3, 1) := by decide +kernel
theorem dL_pay_13 : decode cL_pay 13 = .ok (.iconst 1, 1) := by decide +kernel
theorem dL_pay_14 : decode cL_pay 14 = .ok (.ireturn, 1) := by decide +kernel
theorem dL_pay_15 : decode cL_pay 15 = .ok (.astore_n 3, 1) := by decide +kernel
theorem dL_pay_16 : decode cL_pay 16 = .ok (.iconst 2, 1) := by decide +kernel
theorem dL_pay_17 : decode cL_pay 17 = .ok (.ireturn, 1) := by decide +kernel
theorem dL_pay_18 : decode cL_pay 18 = .ok (.iconst 0, 1) := by decide +kernel
theorem dL_pay_19 : decode cL_pay 19 = .ok (.ireturn, 1) := by decide +kernel
set_option maxRecDepth 20000 in
theorem ggL_payExtra_X7_payExtra : GoodIn wsL_payExtra wsX7_payExtra := goodIn_ca (goodIn_ca (goodIn_ca (goodIn_r _ [8, 9, 10, 11, 12, 13, 14, 15, 7, 16, 17, 18, 19, 20, 21, 22, 23, 24, 25, 26, 27, 28, 29, 30, 31, 32, 33, 34, 35, 36, 37, 38, 39, 40, 41, 42, 43, 44, 45, 46, 47, 48, 49, 50, 51, 52, 53, 54, 55, 56, 57, 58, 59, 60, 61, 62, 63, 64, 65, 66, 67, 68, 69, 70, 71, 72, 73, 74, 75, 76, 77, 78, 79, 80, 81, 82, 83, 84, 85, 86, 87, 88, 89, 90, 91, 92, 93, 94, 95, 96, 97, 98, 99, 100, 101, 102, 103, 104, 105, 106, 107, 108, 109, 110, 111, 112, 113, 114, 115, 116, 117, 118, 119, 120, 121, 122, 123, 124, 125, 126, 127, 128, 129, 130, 131, 132, 133, 134, 135, 136, 137, 138, 139, 140, 141, 142, 143, 144, 145, 146, 147, 148, 149] (by decide +kernel) (by decide +kernel)) (goodIn_sub (fun _ h => List.mem_cons_of_mem _ (List.mem_append_left _ (List.mem_append_left _ (List.mem_append_right _ h)))) (by decide +kernel))) (goodIn_sub (fun _ h => List.mem_cons_of_mem _ (List.mem_append_left _ (List.mem_append_right _ h))) (by decide +kernel))) (goodIn_sub (fun _ h => List.mem_cons_of_mem _ (List.mem_append_right _ h)) (by decide +kernel))
set_option maxRecDepth 20000 in
theorem gL_payExtra_X7_payExtra : GoodIn wsL_payExtra (wsV RL 26 RX7 yX7_payExtra wsX7_payExtra) := goodIn_app (goodIn_of _ (by decide +kernel)) ggL_payExtra_X7_payExtra
theorem dL_payExtra_0 : decode cL_payExtra 0 = .ok (.aload 4, 2) := by decide +kernel
theorem dL_payExtra_2 : decode cL_payExtra 2 = .ok (.iconst 0, 1) := by decide +kernel
theorem dL_payExtra_3 : decode cL_payExtra 3 = .ok (.aload_n 0, 1) := by decide +kernel
theorem dL_payExtra_4 : decode cL_payExtra 4 = .ok (.iload_n 1, 1) := by decide +kernel
theorem dL_payExtra_5 : decode cL_payExtra 5 = .ok (.iload_n 2, 1) := by decide +kernel
theorem dL_payExtra_6 : decode cL_payExtra 6 = .ok (.iload_n 3, 1) := by decide +kernel
theorem dL_payExtra_7 : decode cL_payExtra 7 = .ok (.invokevirtual 26, 3) := by decide +kernel
theorem dL_payExtra_10 : decode cL_payExtra 10 = .ok (.i2l, 1) := by decide +kernel
theorem dL_payExtra_11 : decode cL_payExtra 11 = .ok (.lastore, 1) := by decide +kernel
theorem dL_payExtra_12 : decode cL_payExtra 12 = .ok (.goto 15, 3) := by decide +kernel
theorem dL_payExtra_15 : decode cL_payExtra 15 = .ok (.astore 5, 2) := by decide +kernel
theorem dL_payExtra_17 : decode cL_payExtra 17 = .ok (.iconst 1, 1) := by decide +kernel
theorem dL_payExtra_18 : decode cL_payExtra 18 = .ok (.ireturn, 1) := by decide +kernel
theorem dL_payExtra_19 : decode cL_payExtra 19 = .ok (.astore 5, 2) := by decide +kernel
theorem dL_payExtra_21 : decode cL_payExtra 21 = .ok (.iconst 2, 1) := by decide +kernel
theorem dL_payExtra_22 : decode cL_payExtra 22 = .ok (.ireturn, 1) := by decide +kernel
theorem dL_payExtra_23 : decode cL_payExtra 23 = .ok (.astore 5, 2) := by decide +kernel
theorem dL_payExtra_25 : decode cL_payExtra 25 = .ok (.iconst 3, 1) := by decide +kernel
theorem dL_payExtra_26 : decode cL_payExtra 26 = .ok (.ireturn, 1) := by decide +kernel
