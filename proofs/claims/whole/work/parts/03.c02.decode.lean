theorem dX4_step_37 : decode cX4_step 37 = .ok (.goto 13, 3) := by decide +kernel
theorem dX4_step_40 : decode cX4_step 40 = .ok (.aload_n 0, 1) := by decide +kernel
theorem dX4_step_41 : decode cX4_step 41 = .ok (.aload_n 1, 1) := by decide +kernel
theorem dX4_step_42 : decode cX4_step 42 = .ok (.aload_n 1, 1) := by decide +kernel
theorem dX4_step_43 : decode cX4_step 43 = .ok (.getfield 71, 3) := by decide +kernel
theorem dX4_step_46 : decode cX4_step 46 = .ok (.invokevirtual 147, 3) := by decide +kernel
theorem dX4_step_49 : decode cX4_step 49 = .ok (.istore_n 2, 1) := by decide +kernel
theorem dX4_step_50 : decode cX4_step 50 = .ok (.iload_n 2, 1) := by decide +kernel
theorem dX4_step_51 : decode cX4_step 51 = .ok (.ifCond .ne 5, 3) := by decide +kernel
theorem dX4_step_54 : decode cX4_step 54 = .ok (.iconst 0, 1) := by decide +kernel
theorem dX4_step_55 : decode cX4_step 55 = .ok (.ireturn, 1) := by decide +kernel
theorem dX4_step_56 : decode cX4_step 56 = .ok (.aload_n 1, 1) := by decide +kernel
theorem dX4_step_57 : decode cX4_step 57 = .ok (.dup, 1) := by decide +kernel
theorem dX4_step_58 : decode cX4_step 58 = .ok (.getfield 151, 3) := by decide +kernel
theorem dX4_step_61 : decode cX4_step 61 = .ok (.iconst 1, 1) := by decide +kernel
theorem dX4_step_62 : decode cX4_step 62 = .ok (.iadd, 1) := by decide +kernel
theorem dX4_step_63 : decode cX4_step 63 = .ok (.putfield 151, 3) := by decide +kernel
theorem dX4_step_66 : decode cX4_step 66 = .ok (.iconst 1, 1) := by decide +kernel
theorem dX4_step_67 : decode cX4_step 67 = .ok (.ireturn, 1) := by decide +kernel
set_option maxRecDepth 20000 in
theorem ggX4_execute_X0_put : GoodIn wsX4_execute wsX0_put := goodIn_r _ [12, 13, 135, 136, 137, 138, 139, 140, 141, 142] (by decide +kernel) (by decide +kernel)
set_option maxRecDepth 20000 in
theorem gX4_execute_X0_put : GoodIn wsX4_execute (wsV RX4 93 RX0 yX0_put wsX0_put) := goodIn_app (goodIn_of _ (by decide +kernel)) ggX4_execute_X0_put
set_option maxRecDepth 20000 in
theorem ggX4_execute_X4_mayAccess : GoodIn wsX4_execute wsX4_mayAccess := goodIn_r _ [18, 19, 20, 21, 22, 23, 24, 25, 17, 26, 27, 28, 29, 30, 31, 32, 33, 34, 35, 36, 37, 38, 39, 1, 40, 41, 42, 43, 44, 7, 45, 46, 47, 48, 49, 50, 51, 52, 53, 8, 9, 10, 11, 12, 13, 54, 55, 56, 57, 58, 59, 60, 61, 62, 63, 64, 65, 66, 67, 68, 69, 70, 71, 72, 73, 74, 75, 76, 77, 78, 79, 80, 81, 82, 83, 84, 135, 136, 137, 138, 139, 140, 141, 142, 155, 156, 157, 158, 159, 160, 161, 162, 163, 143, 144, 145, 146, 147, 148, 149, 164, 165, 166] (by decide +kernel) (by decide +kernel)
set_option maxRecDepth 20000 in
theorem gX4_execute_X4_mayAccess : GoodIn wsX4_execute (wsV RX4 166 RX4 yX4_mayAccess wsX4_mayAccess) := goodIn_app (goodIn_of _ (by decide +kernel)) ggX4_execute_X4_mayAccess
set_option maxRecDepth 20000 in
theorem ggX4_execute_X4_wordSeenBy : GoodIn wsX4_execute wsX4_wordSeenBy := goodIn_r _ [88, 20, 89, 90, 91, 92, 93, 57, 94, 63, 135, 136, 137, 138, 139, 140, 141, 142, 155, 156, 157, 158, 159, 160, 161, 162, 163, 143, 144, 145, 146, 147, 148, 149] (by decide +kernel) (by decide +kernel)
set_option maxRecDepth 20000 in
theorem gX4_execute_X4_wordSeenBy : GoodIn wsX4_execute (wsV RX4 112 RX4 yX4_wordSeenBy wsX4_wordSeenBy) := goodIn_app (goodIn_of _ (by decide +kernel)) ggX4_execute_X4_wordSeenBy
set_option maxRecDepth 20000 in
theorem ggX4_execute_X4_write : GoodIn wsX4_execute wsX4_write := goodIn_r _ [98, 20, 21, 90, 99, 100, 101, 57, 102, 63, 103, 135, 136, 137, 138, 139, 140, 141, 142, 155, 156, 157, 158, 159, 160, 161, 162, 163, 143, 144, 145, 146, 147, 148, 149] (by decide +kernel) (by decide +kernel)
set_option maxRecDepth 20000 in
theorem gX4_execute_X4_write : GoodIn wsX4_execute (wsV RX4 170 RX4 yX4_write wsX4_write) := goodIn_app (goodIn_of _ (by decide +kernel)) ggX4_execute_X4_write
set_option maxRecDepth 20000 in
theorem ggX4_execute_X4_executeTransactional : GoodIn wsX4_execute wsX4_executeTransactional := goodIn_r _ [107, 2, 6, 1, 3, 31, 108, 109, 110, 17, 111, 20, 21, 112, 5, 32, 33, 34, 35, 36, 19, 37, 38, 39, 40, 41, 42, 43, 44, 7, 45, 46, 47, 48, 49, 50, 51, 52, 53, 8, 9, 10, 11, 12, 13, 54, 55, 56, 57, 58, 59, 60, 61, 62, 63, 113, 114, 115, 116, 117, 118, 119, 120, 121, 122, 123, 124, 90, 125, 126, 127, 128, 129, 103, 130, 92, 93, 94, 131, 132, 133, 134, 143, 144, 145, 146, 147, 148, 149, 150, 151, 152, 153, 154, 135, 136, 137, 138, 139, 140, 141, 142, 155, 156, 157, 158, 159, 160, 161, 162, 163, 164, 165, 166] (by decide +kernel) (by decide +kernel)
set_option maxRecDepth 20000 in
theorem gX4_execute_X4_executeTransactional : GoodIn wsX4_execute (wsV RX4 174 RX4 yX4_executeTransactional wsX4_executeTransactional) := goodIn_app (goodIn_of _ (by decide +kernel)) ggX4_execute_X4_executeTransactional
theorem dX4_execute_0 : decode cX4_execute 0 = .ok (.aload_n 1, 1) := by decide +kernel
theorem dX4_execute_1 : decode cX4_execute 1 = .ok (.getfield 90, 3) := by decide +kernel
theorem dX4_execute_4 : decode cX4_execute 4 = .ok (.astore_n 3, 1) := by decide +kernel
theorem dX4_execute_5 : decode cX4_execute 5 = .ok (.aload_n 0, 1) := by decide +kernel
theorem dX4_execute_6 : decode cX4_execute 6 = .ok (.getfield 16, 3) := by decide +kernel
theorem dX4_execute_9 : decode cX4_execute 9 = .ok (.getfield 154, 3) := by decide +kernel
theorem dX4_execute_12 : decode cX4_execute 12 = .ok (.iload_n 2, 1) := by decide +kernel
theorem dX4_execute_13 : decode cX4_execute 13 = .ok (.iaload, 1) := by decide +kernel
theorem dX4_execute_14 : decode cX4_execute 14 = .ok (.istore 4, 2) := by decide +kernel
theorem dX4_execute_16 : decode cX4_execute 16 = .ok (.aload_n 0, 1) := by decide +kernel
theorem dX4_execute_17 : decode cX4_execute 17 = .ok (.getfield 16, 3) := by decide +kernel
theorem dX4_execute_20 : decode cX4_execute 20 = .ok (.getfield 157, 3) := by decide +kernel
theorem dX4_execute_23 : decode cX4_execute 23 = .ok (.iload_n 2, 1) := by decide +kernel
theorem dX4_execute_24 : decode cX4_execute 24 = .ok (.iaload, 1) := by decide +kernel
theorem dX4_execute_25 : decode cX4_execute 25 = .ok (.istore 5, 2) := by decide +kernel
theorem dX4_execute_27 : decode cX4_execute 27 = .ok (.aload_n 0, 1) := by decide +kernel
theorem dX4_execute_28 : decode cX4_execute 28 = .ok (.getfield 16, 3) := by decide +kernel
theorem dX4_execute_31 : decode cX4_execute 31 = .ok (.getfield 160, 3) := by decide +kernel
theorem dX4_execute_34 : decode cX4_execute 34 = .ok (.iload_n 2, 1) := by decide +kernel
theorem dX4_execute_35 : decode cX4_execute 35 = .ok (.iaload, 1) := by decide +kernel
theorem dX4_execute_36 : decode cX4_execute 36 = .ok (.istore 6, 2) := by decide +kernel
theorem dX4_execute_38 : decode cX4_execute 38 = .ok (.iload_n 2, 1) := by decide +kernel
theorem dX4_execute_39 : decode cX4_execute 39 = .ok (.iconst 1, 1) := by decide +kernel
theorem dX4_execute_40 : decode cX4_execute 40 = .ok (.iadd, 1) := by decide +kernel
theorem dX4_execute_41 : decode cX4_execute 41 = .ok (.istore 7, 2) := by decide +kernel
theorem dX4_execute_43 : decode cX4_execute 43 = .ok (.aload_n 0, 1) := by decide +kernel
theorem dX4_execute_44 : decode cX4_execute 44 = .ok (.getfield 16, 3) := by decide +kernel
theorem dX4_execute_47 : decode cX4_execute 47 = .ok (.getfield 163, 3) := by decide +kernel
theorem dX4_execute_50 : decode cX4_execute 50 = .ok (.iload_n 2, 1) := by decide +kernel
theorem dX4_execute_51 : decode cX4_execute 51 = .ok (.iaload, 1) := by decide +kernel
theorem dX4_execute_52 : decode cX4_execute 52 = .ok (.tableswitch 266 0 9 #[56, 67, 85, 103, 121, 137, 176, 213, 236, 259], 56) := by decide +kernel
theorem dX4_execute_108 : decode cX4_execute 108 = .ok (.aload_n 1, 1) := by decide +kernel
theorem dX4_execute_109 : decode cX4_execute 109 = .ok (.iload 4, 2) := by decide +kernel
theorem dX4_execute_111 : decode cX4_execute 111 = .ok (.iload 6, 2) := by decide +kernel
theorem dX4_execute_113 : decode cX4_execute 113 = .ok (.invokevirtual 93, 3) := by decide +kernel
theorem dX4_execute_116 : decode cX4_execute 116 = .ok (.goto 213, 3) := by decide +kernel
theorem dX4_execute_119 : decode cX4_execute 119 = .ok (.aload_n 1, 1) := by decide +kernel
theorem dX4_execute_120 : decode cX4_execute 120 = .ok (.iload 4, 2) := by decide +kernel
theorem dX4_execute_122 : decode cX4_execute 122 = .ok (.aload_n 3, 1) := by decide +kernel
theorem dX4_execute_123 : decode cX4_execute 123 = .ok (.iload 5, 2) := by decide +kernel
theorem dX4_execute_125 : decode cX4_execute 125 = .ok (.iaload, 1) := by decide +kernel
theorem dX4_execute_126 : decode cX4_execute 126 = .ok (.aload_n 3, 1) := by decide +kernel
theorem dX4_execute_127 : decode cX4_execute 127 = .ok (.iload 6, 2) := by decide +kernel
theorem dX4_execute_129 : decode cX4_execute 129 = .ok (.iaload, 1) := by decide +kernel
theorem dX4_execute_130 : decode cX4_execute 130 = .ok (.iadd, 1) := by decide +kernel
theorem dX4_execute_131 : decode cX4_execute 131 = .ok (.invokevirtual 93, 3) := by decide +kernel
theorem dX4_execute_134 : decode cX4_execute 134 = .ok (.goto 195, 3) := by decide +kernel
theorem dX4_execute_137 : decode cX4_execute 137 = .ok (.aload_n 1, 1) := by decide +kernel
theorem dX4_execute_138 : decode cX4_execute 138 = .ok (.iload 4, 2) := by decide +kernel
theorem dX4_execute_140 : decode cX4_execute 140 = .ok (.aload_n 3, 1) := by decide +kernel
theorem dX4_execute_141 : decode cX4_execute 141 = .ok (.iload 5, 2) := by decide +kernel
theorem dX4_execute_143 : decode cX4_execute 143 = .ok (.iaload, 1) := by decide +kernel
theorem dX4_execute_144 : decode cX4_execute 144 = .ok (.aload_n 3, 1) := by decide +kernel
theorem dX4_execute_145 : decode cX4_execute 145 = .ok (.iload 6, 2) := by decide +kernel
theorem dX4_execute_147 : decode cX4_execute 147 = .ok (.iaload, 1) := by decide +kernel
theorem dX4_execute_148 : decode cX4_execute 148 = .ok (.isub, 1) := by decide +kernel
theorem dX4_execute_149 : decode cX4_execute 149 = .ok (.invokevirtual 93, 3) := by decide +kernel
theorem dX4_execute_152 : decode cX4_execute 152 = .ok (.goto 177, 3) := by decide +kernel
theorem dX4_execute_155 : decode cX4_execute 155 = .ok (.aload_n 1, 1) := by decide +kernel
theorem dX4_execute_156 : decode cX4_execute 156 = .ok (.iload 4, 2) := by decide +kernel
theorem dX4_execute_158 : decode cX4_execute 158 = .ok (.aload_n 3, 1) := by decide +kernel
theorem dX4_execute_159 : decode cX4_execute 159 = .ok (.iload 5, 2) := by decide +kernel
theorem dX4_execute_161 : decode cX4_execute 161 = .ok (.iaload, 1) := by decide +kernel
theorem dX4_execute_162 : decode cX4_execute 162 = .ok (.aload_n 3, 1) := by decide +kernel
theorem dX4_execute_163 : decode cX4_execute 163 = .ok (.iload 6, 2) := by decide +kernel
theorem dX4_execute_165 : decode cX4_execute 165 = .ok (.iaload, 1) := by decide +kernel
theorem dX4_execute_166 : decode cX4_execute 166 = .ok (.imul, 1) := by decide +kernel
theorem dX4_execute_167 : decode cX4_execute 167 = .ok (.invokevirtual 93, 3) := by decide +kernel
theorem dX4_execute_170 : decode cX4_execute 170 = .ok (.goto 159, 3) := by decide +kernel
theorem dX4_execute_173 : decode cX4_execute 173 = .ok (.aload_n 1, 1) := by decide +kernel
theorem dX4_execute_174 : decode cX4_execute 174 = .ok (.iload 4, 2) := by decide +kernel
theorem dX4_execute_176 : decode cX4_execute 176 = .ok (.aload_n 3, 1) := by decide +kernel
theorem dX4_execute_177 : decode cX4_execute 177 = .ok (.iload 5, 2) := by decide +kernel
theorem dX4_execute_179 : decode cX4_execute 179 = .ok (.iaload, 1) := by decide +kernel
theorem dX4_execute_180 : decode cX4_execute 180 = .ok (.iload 6, 2) := by decide +kernel
theorem dX4_execute_182 : decode cX4_execute 182 = .ok (.iadd, 1) := by decide +kernel
theorem dX4_execute_183 : decode cX4_execute 183 = .ok (.invokevirtual 93, 3) := by decide +kernel
theorem dX4_execute_186 : decode cX4_execute 186 = .ok (.goto 143, 3) := by decide +kernel
theorem dX4_execute_189 : decode cX4_execute 189 = .ok (.aload_n 0, 1) := by decide +kernel
theorem dX4_execute_190 : decode cX4_execute 190 = .ok (.aload_n 1, 1) := by decide +kernel
theorem dX4_execute_191 : decode cX4_execute 191 = .ok (.aload_n 3, 1) := by decide +kernel
theorem dX4_execute_192 : decode cX4_execute 192 = .ok (.iload 5, 2) := by decide +kernel
theorem dX4_execute_194 : decode cX4_execute 194 = .ok (.iaload, 1) := by decide +kernel
theorem dX4_execute_195 : decode cX4_execute 195 = .ok (.iload 6, 2) := by decide +kernel
theorem dX4_execute_197 : decode cX4_execute 197 = .ok (.iadd, 1) := by decide +kernel
theorem dX4_execute_198 : decode cX4_execute 198 = .ok (.iconst 0, 1) := by decide +kernel
theorem dX4_execute_199 : decode cX4_execute 199 = .ok (.invokevirtual 166, 3) := by decide +kernel
theorem dX4_execute_202 : decode cX4_execute 202 = .ok (.ifCond .ne 5, 3) := by decide +kernel
theorem dX4_execute_205 : decode cX4_execute 205 = .ok (.iconst 0, 1) := by decide +kernel
theorem dX4_execute_206 : decode cX4_execute 206 = .ok (.ireturn, 1) := by decide +kernel
theorem dX4_execute_207 : decode cX4_execute 207 = .ok (.aload_n 1, 1) := by decide +kernel
theorem dX4_execute_208 : decode cX4_execute 208 = .ok (.iload 4, 2) := by decide +kernel
theorem dX4_execute_210 : decode cX4_execute 210 = .ok (.aload_n 0, 1) := by decide +kernel
theorem dX4_execute_211 : decode cX4_execute 211 = .ok (.aload_n 1, 1) := by decide +kernel
theorem dX4_execute_212 : decode cX4_execute 212 = .ok (.aload_n 3, 1) := by decide +kernel
theorem dX4_execute_213 : decode cX4_execute 213 = .ok (.iload 5, 2) := by decide +kernel
theorem dX4_execute_215 : decode cX4_execute 215 = .ok (.iaload, 1) := by decide +kernel
theorem dX4_execute_216 : decode cX4_execute 216 = .ok (.iload 6, 2) := by decide +kernel
theorem dX4_execute_218 : decode cX4_execute 218 = .ok (.iadd, 1) := by decide +kernel
theorem dX4_execute_219 : decode cX4_execute 219 = .ok (.invokevirtual 112, 3) := by decide +kernel
theorem dX4_execute_222 : decode cX4_execute 222 = .ok (.invokevirtual 93, 3) := by decide +kernel
theorem dX4_execute_225 : decode cX4_execute 225 = .ok (.goto 104, 3) := by decide +kernel
theorem dX4_execute_228 : decode cX4_execute 228 = .ok (.aload_n 0, 1) := by decide +kernel
theorem dX4_execute_229 : decode cX4_execute 229 = .ok (.aload_n 1, 1) := by decide +kernel
theorem dX4_execute_230 : decode cX4_execute 230 = .ok (.aload_n 3, 1) := by decide +kernel
theorem dX4_execute_231 : decode cX4_execute 231 = .ok (.iload 5, 2) := by decide +kernel
theorem dX4_execute_233 : decode cX4_execute 233 = .ok (.iaload, 1) := by decide +kernel
theorem dX4_execute_234 : decode cX4_execute 234 = .ok (.iload 6, 2) := by decide +kernel
theorem dX4_execute_236 : decode cX4_execute 236 = .ok (.iadd, 1) := by decide +kernel
theorem dX4_execute_237 : decode cX4_execute 237 = .ok (.iconst 1, 1) := by decide +kernel
theorem dX4_execute_238 : decode cX4_execute 238 = .ok (.invokevirtual 166, 3) := by decide +kernel
theorem dX4_execute_241 : decode cX4_execute 241 = .ok (.ifCond .ne 5, 3) := by decide +kernel
theorem dX4_execute_244 : decode cX4_execute 244 = .ok (.iconst 0, 1) := by decide +kernel
theorem dX4_execute_245 : decode cX4_execute 245 = .ok (.ireturn, 1) := by decide +kernel
theorem dX4_execute_246 : decode cX4_execute 246 = .ok (.aload_n 0, 1) := by decide +kernel
theorem dX4_execute_247 : decode cX4_execute 247 = .ok (.aload_n 1, 1) := by decide +kernel
theorem dX4_execute_248 : decode cX4_execute 248 = .ok (.aload_n 3, 1) := by decide +kernel
theorem dX4_execute_249 : decode cX4_execute 249 = .ok (.iload 5, 2) := by decide +kernel
theorem dX4_execute_251 : decode cX4_execute 251 = .ok (.iaload, 1) := by decide +kernel
theorem dX4_execute_252 : decode cX4_execute 252 = .ok (.iload 6, 2) := by decide +kernel
theorem dX4_execute_254 : decode cX4_execute 254 = .ok (.iadd, 1) := by decide +kernel
theorem dX4_execute_255 : decode cX4_execute 255 = .ok (.aload_n 3, 1) := by decide +kernel
theorem dX4_execute_256 : decode cX4_execute 256 = .ok (.iload 4, 2) := by decide +kernel
theorem dX4_execute_258 : decode cX4_execute 258 = .ok (.iaload, 1) := by decide +kernel
theorem dX4_execute_259 : decode cX4_execute 259 = .ok (.invokevirtual 170, 3) := by decide +kernel
theorem dX4_execute_262 : decode cX4_execute 262 = .ok (.goto 67, 3) := by decide +kernel
theorem dX4_execute_265 : decode cX4_execute 265 = .ok (.aload_n 3, 1) := by decide +kernel
theorem dX4_execute_266 : decode cX4_execute 266 = .ok (.iload 4, 2) := by decide +kernel
theorem dX4_execute_268 : decode cX4_execute 268 = .ok (.iaload, 1) := by decide +kernel
theorem dX4_execute_269 : decode cX4_execute 269 = .ok (.aload_n 3, 1) := by decide +kernel
theorem dX4_execute_270 : decode cX4_execute 270 = .ok (.iload 5, 2) := by decide +kernel
theorem dX4_execute_272 : decode cX4_execute 272 = .ok (.iaload, 1) := by decide +kernel
theorem dX4_execute_273 : decode cX4_execute 273 = .ok (.if_icmp .ge 8, 3) := by decide +kernel
theorem dX4_execute_276 : decode cX4_execute 276 = .ok (.iload 6, 2) := by decide +kernel
theorem dX4_execute_278 : decode cX4_execute 278 = .ok (.goto 5, 3) := by decide +kernel
theorem dX4_execute_281 : decode cX4_execute 281 = .ok (.iload 7, 2) := by decide +kernel
theorem dX4_execute_283 : decode cX4_execute 283 = .ok (.istore 7, 2) := by decide +kernel
theorem dX4_execute_285 : decode cX4_execute 285 = .ok (.goto 44, 3) := by decide +kernel
theorem dX4_execute_288 : decode cX4_execute 288 = .ok (.aload_n 3, 1) := by decide +kernel
theorem dX4_execute_289 : decode cX4_execute 289 = .ok (.iload 4, 2) := by decide +kernel
theorem dX4_execute_291 : decode cX4_execute 291 = .ok (.iaload, 1) := by decide +kernel
theorem dX4_execute_292 : decode cX4_execute 292 = .ok (.aload_n 3, 1) := by decide +kernel
theorem dX4_execute_293 : decode cX4_execute 293 = .ok (.iload 5, 2) := by decide +kernel
theorem dX4_execute_295 : decode cX4_execute 295 = .ok (.iaload, 1) := by decide +kernel
theorem dX4_execute_296 : decode cX4_execute 296 = .ok (.if_icmp .eq 8, 3) := by decide +kernel
theorem dX4_execute_299 : decode cX4_execute 299 = .ok (.iload 6, 2) := by decide +kernel
theorem dX4_execute_301 : decode cX4_execute 301 = .ok (.goto 5, 3) := by decide +kernel
theorem dX4_execute_304 : decode cX4_execute 304 = .ok (.iload 7, 2) := by decide +kernel
theorem dX4_execute_306 : decode cX4_execute 306 = .ok (.istore 7, 2) := by decide +kernel
theorem dX4_execute_308 : decode cX4_execute 308 = .ok (.goto 21, 3) := by decide +kernel
theorem dX4_execute_311 : decode cX4_execute 311 = .ok (.iload 6, 2) := by decide +kernel
theorem dX4_execute_313 : decode cX4_execute 313 = .ok (.istore 7, 2) := by decide +kernel
theorem dX4_execute_315 : decode cX4_execute 315 = .ok (.goto 14, 3) := by decide +kernel
theorem dX4_execute_318 : decode cX4_execute 318 = .ok (.aload_n 0, 1) := by decide +kernel
theorem dX4_execute_319 : decode cX4_execute 319 = .ok (.aload_n 1, 1) := by decide +kernel
theorem dX4_execute_320 : decode cX4_execute 320 = .ok (.iload_n 2, 1) := by decide +kernel
theorem dX4_execute_321 : decode cX4_execute 321 = .ok (.invokevirtual 174, 3) := by decide +kernel
theorem dX4_execute_324 : decode cX4_execute 324 = .ok (.ifCond .ne 5, 3) := by decide +kernel
theorem dX4_execute_327 : decode cX4_execute 327 = .ok (.iconst 0, 1) := by decide +kernel
theorem dX4_execute_328 : decode cX4_execute 328 = .ok (.ireturn, 1) := by decide +kernel
theorem dX4_execute_329 : decode cX4_execute 329 = .ok (.aload_n 1, 1) := by decide +kernel
theorem dX4_execute_330 : decode cX4_execute 330 = .ok (.iload 7, 2) := by decide +kernel
theorem dX4_execute_332 : decode cX4_execute 332 = .ok (.putfield 71, 3) := by decide +kernel
theorem dX4_execute_335 : decode cX4_execute 335 = .ok (.iconst 1, 1) := by decide +kernel
theorem dX4_execute_336 : decode cX4_execute 336 = .ok (.ireturn, 1) := by decide +kernel
set_option maxRecDepth 20000 in
theorem ggX4_executeTransactional_X4_begin : GoodIn wsX4_executeTransactional wsX4_begin := goodIn_r _ [10, 11, 12, 13, 1, 14, 3, 15, 16, 17, 9, 18, 19, 20, 21, 22, 23, 24, 25, 26, 27, 28, 29, 30, 31, 32, 33, 34, 35, 36, 37, 38, 39, 40, 41, 42, 43, 44, 45, 46, 47, 48, 49, 50, 51, 52, 53, 54, 55, 56, 57, 58, 59, 60, 61, 62, 94, 95, 96, 97, 98, 99, 100, 101, 102, 103, 104, 105, 106, 107, 108, 109, 110, 82, 83, 84, 85, 86, 87, 88, 89, 90, 91, 92, 93, 111, 112, 113] (by decide +kernel) (by decide +kernel)
set_option maxRecDepth 20000 in
theorem gX4_executeTransactional_X4_begin : GoodIn wsX4_executeTransactional (wsV RX4 177 RX4 yX4_begin wsX4_begin) := goodIn_app (goodIn_of _ (by decide +kernel)) ggX4_executeTransactional_X4_begin
set_option maxRecDepth 20000 in
theorem ggX4_executeTransactional_X4_end : GoodIn wsX4_executeTransactional wsX4_end := goodIn_r _ [66, 11, 12, 67, 68, 69, 70, 71, 48, 72, 73, 74, 75, 76, 77, 54, 45, 46, 47, 49, 50, 51, 52, 53, 94, 95, 96, 97, 98, 99, 100, 101, 102, 103, 104, 105, 106, 107, 108, 109, 110, 82, 83, 84, 85, 86, 87, 88] (by decide +kernel) (by decide +kernel)
set_option maxRecDepth 20000 in
theorem gX4_executeTransactional_X4_end : GoodIn wsX4_executeTransactional (wsV RX4 180 RX4 yX4_end wsX4_end) := goodIn_app (goodIn_of _ (by decide +kernel)) ggX4_executeTransactional_X4_end
set_option maxRecDepth 20000 in
theorem ggX4_executeTransactional_X4_breaksOff : GoodIn wsX4_executeTransactional wsX4_breaksOff := goodIn_r _ [81, 11, 12, 15, 16, 17, 9, 18, 19, 20, 21, 22, 23, 3, 24, 25, 26, 27, 28, 29, 30, 31, 32, 33, 34, 35, 36, 37, 38, 39, 40, 41, 42, 43, 44, 45, 46, 47, 48, 49, 50, 51, 52, 53, 54, 94, 95, 96, 97, 98, 99, 100, 101, 102, 103, 104, 105, 106, 107, 108, 109, 110, 82, 83, 84, 85, 86, 87, 88, 111, 112, 113] (by decide +kernel) (by decide +kernel)
set_option maxRecDepth 20000 in
theorem gX4_executeTransactional_X4_breaksOff : GoodIn wsX4_executeTransactional (wsV RX4 183 RX4 yX4_breaksOff wsX4_breaksOff) := goodIn_app (goodIn_of _ (by decide +kernel)) ggX4_executeTransactional_X4_breaksOff
theorem dX4_executeTransactional_0 : decode cX4_executeTransactional 0 = .ok (.aload_n 0, 1) := by decide +kernel
theorem dX4_executeTransactional_1 : decode cX4_executeTransactional 1 = .ok (.getfield 16, 3) := by decide +kernel
theorem dX4_executeTransactional_4 : decode cX4_executeTransactional 4 = .ok (.getfield 163, 3) := by decide +kernel
theorem dX4_executeTransactional_7 : decode cX4_executeTransactional 7 = .ok (.iload_n 2, 1) := by decide +kernel
theorem dX4_executeTransactional_8 : decode cX4_executeTransactional 8 = .ok (.iaload, 1) := by decide +kernel
theorem dX4_executeTransactional_9 : decode cX4_executeTransactional 9 = .ok (.tableswitch 73 10 12 #[27, 34, 41], 27) := by decide +kernel
theorem dX4_executeTransactional_36 : decode cX4_executeTransactional 36 = .ok (.aload_n 0, 1) := by decide +kernel
theorem dX4_executeTransactional_37 : decode cX4_executeTransactional 37 = .ok (.aload_n 1, 1) := by decide +kernel
theorem dX4_executeTransactional_38 : decode cX4_executeTransactional 38 = .ok (.iload_n 2, 1) := by decide +kernel
theorem dX4_executeTransactional_39 : decode cX4_executeTransactional 39 = .ok (.invokevirtual 177, 3) := by decide +kernel
theorem dX4_executeTransactional_42 : decode cX4_executeTransactional 42 = .ok (.ireturn, 1) := by decide +kernel
theorem dX4_executeTransactional_43 : decode cX4_executeTransactional 43 = .ok (.aload_n 0, 1) := by decide +kernel
theorem dX4_executeTransactional_44 : decode cX4_executeTransactional 44 = .ok (.aload_n 1, 1) := by decide +kernel
theorem dX4_executeTransactional_45 : decode cX4_executeTransactional 45 = .ok (.invokevirtual 180, 3) := by decide +kernel
theorem dX4_executeTransactional_48 : decode cX4_executeTransactional 48 = .ok (.iconst 1, 1) := by decide +kernel
theorem dX4_executeTransactional_49 : decode cX4_executeTransactional 49 = .ok (.ireturn, 1) := by decide +kernel
theorem dX4_executeTransactional_50 : decode cX4_executeTransactional 50 = .ok (.aload_n 0, 1) := by decide +kernel
theorem dX4_executeTransactional_51 : decode cX4_executeTransactional 51 = .ok (.aload_n 1, 1) := by decide +kernel
theorem dX4_executeTransactional_52 : decode cX4_executeTransactional 52 = .ok (.sipush 256, 3) := by decide +kernel
theorem dX4_executeTransactional_55 : decode cX4_executeTransactional 55 = .ok (.aload_n 1, 1) := by decide +kernel
theorem dX4_executeTransactional_56 : decode cX4_executeTransactional 56 = .ok (.getfield 90, 3) := by decide +kernel
theorem dX4_executeTransactional_59 : decode cX4_executeTransactional 59 = .ok (.aload_n 0, 1) := by decide +kernel
theorem dX4_executeTransactional_60 : decode cX4_executeTransactional 60 = .ok (.getfield 16, 3) := by decide +kernel
theorem dX4_executeTransactional_63 : decode cX4_executeTransactional 63 = .ok (.getfield 154, 3) := by decide +kernel
theorem dX4_executeTransactional_66 : decode cX4_executeTransactional 66 = .ok (.iload_n 2, 1) := by decide +kernel
theorem dX4_executeTransactional_67 : decode cX4_executeTransactional 67 = .ok (.iaload, 1) := by decide +kernel
theorem dX4_executeTransactional_68 : decode cX4_executeTransactional 68 = .ok (.iaload, 1) := by decide +kernel
theorem dX4_executeTransactional_69 : decode cX4_executeTransactional 69 = .ok (.iadd, 1) := by decide +kernel
theorem dX4_executeTransactional_70 : decode cX4_executeTransactional 70 = .ok (.invokevirtual 183, 3) := by decide +kernel
theorem dX4_executeTransactional_73 : decode cX4_executeTransactional 73 = .ok (.ifCond .ne 7, 3) := by decide +kernel
theorem dX4_executeTransactional_76 : decode cX4_executeTransactional 76 = .ok (.iconst 1, 1) := by decide +kernel
theorem dX4_executeTransactional_77 : decode cX4_executeTransactional 77 = .ok (.goto 4, 3) := by decide +kernel
theorem dX4_executeTransactional_80 : decode cX4_executeTransactional 80 = .ok (.iconst 0, 1) := by decide +kernel
theorem dX4_executeTransactional_81 : decode cX4_executeTransactional 81 = .ok (.ireturn, 1) := by decide +kernel
theorem dX4_executeTransactional_82 : decode cX4_executeTransactional 82 = .ok (.aload_n 1, 1) := by decide +kernel
theorem dX4_executeTransactional_83 : decode cX4_executeTransactional 83 = .ok (.aload_n 0, 1) := by decide +kernel
theorem dX4_executeTransactional_84 : decode cX4_executeTransactional 84 = .ok (.aload_n 1, 1) := by decide +kernel
theorem dX4_executeTransactional_85 : decode cX4_executeTransactional 85 = .ok (.iconst 5, 1) := by decide +kernel
theorem dX4_executeTransactional_86 : decode cX4_executeTransactional 86 = .ok (.invokevirtual 183, 3) := by decide +kernel
theorem dX4_executeTransactional_89 : decode cX4_executeTransactional 89 = .ok (.ifCond .ne 7, 3) := by decide +kernel
theorem dX4_executeTransactional_92 : decode cX4_executeTransactional 92 = .ok (.iconst 1, 1) := by decide +kernel
theorem dX4_executeTransactional_93 : decode cX4_executeTransactional 93 = .ok (.goto 4, 3) := by decide +kernel
theorem dX4_executeTransactional_96 : decode cX4_executeTransactional 96 = .ok (.iconst 0, 1) := by decide +kernel
theorem dX4_executeTransactional_97 : decode cX4_executeTransactional 97 = .ok (.putfield 83, 3) := by decide +kernel
theorem dX4_executeTransactional_100 : decode cX4_executeTransactional 100 = .ok (.aload_n 1, 1) := by decide +kernel
theorem dX4_executeTransactional_101 : decode cX4_executeTransactional 101 = .ok (.getfield 83, 3) := by decide +kernel
theorem dX4_executeTransactional_104 : decode cX4_executeTransactional 104 = .ok (.ireturn, 1) := by decide +kernel
set_option maxRecDepth 20000 in
theorem ggX4_begin_X4_breakOff : GoodIn wsX4_begin wsX4_breakOff := goodIn_r _ [11, 1, 12, 13, 14, 15, 16, 6, 17, 18, 19, 20, 21, 22, 23, 24, 25, 26, 27, 28, 29, 30, 31, 32, 33, 34, 35, 36, 37, 38, 39, 40, 41, 42, 43, 44, 45, 46, 47, 56, 57, 58, 59, 60, 61, 62, 63, 73, 74, 75, 76, 77, 78, 79, 64, 65, 66, 67, 68, 69, 70, 71, 72, 85, 86, 87] (by decide +kernel) (by decide +kernel)
set_option maxRecDepth 20000 in
theorem gX4_begin_X4_breakOff : GoodIn wsX4_begin (wsV RX4 189 RX4 yX4_breakOff wsX4_breakOff) := goodIn_app (goodIn_of _ (by decide +kernel)) ggX4_begin_X4_breakOff
set_option maxRecDepth 20000 in
theorem ggX4_begin_X3_open : GoodIn wsX4_begin wsX3_open := goodIn_r _ [51, 44, 52, 53, 54, 55, 18, 19, 20, 64, 65, 66, 67, 68, 69, 70, 71, 72] (by decide +kernel) (by decide +kernel)
set_option maxRecDepth 20000 in
theorem gX4_begin_X3_open : GoodIn wsX4_begin (wsV RX4 193 RX3 yX3_open wsX3_open) := goodIn_app (goodIn_of _ (by decide +kernel)) ggX4_begin_X3_open
theorem dX4_begin_0 : decode cX4_begin 0 = .ok (.aload_n 1, 1) := by decide +kernel
theorem dX4_begin_1 : decode cX4_begin 1 = .ok (.getfield 74, 3) := by decide +kernel
theorem dX4_begin_4 : decode cX4_begin 4 = .ok (.astore_n 3, 1) := by decide +kernel
theorem dX4_begin_5 : decode cX4_begin 5 = .ok (.aload_n 3, 1) := by decide +kernel
theorem dX4_begin_6 : decode cX4_begin 6 = .ok (.getfield 186, 3) := by decide +kernel
theorem dX4_begin_9 : decode cX4_begin 9 = .ok (.bipush 8, 2) := by decide +kernel
theorem dX4_begin_11 : decode cX4_begin 11 = .ok (.if_icmp .lt 11, 3) := by decide +kernel
theorem dX4_begin_14 : decode cX4_begin 14 = .ok (.aload_n 0, 1) := by decide +kernel
theorem dX4_begin_15 : decode cX4_begin 15 = .ok (.aload_n 1, 1) := by decide +kernel
theorem dX4_begin_16 : decode cX4_begin 16 = .ok (.iconst 2, 1) := by decide +kernel
theorem dX4_begin_17 : decode cX4_begin 17 = .ok (.invokevirtual 189, 3) := by decide +kernel
theorem dX4_begin_20 : decode cX4_begin 20 = .ok (.iconst 0, 1) := by decide +kernel
theorem dX4_begin_21 : decode cX4_begin 21 = .ok (.ireturn, 1) := by decide +kernel
theorem dX4_begin_22 : decode cX4_begin 22 = .ok (.aload_n 3, 1) := by decide +kernel
theorem dX4_begin_23 : decode cX4_begin 23 = .ok (.getfield 186, 3) := by decide +kernel
theorem dX4_begin_26 : decode cX4_begin 26 = .ok (.ifCond .ne 35, 3) := by decide +kernel
theorem dX4_begin_29 : decode cX4_begin 29 = .ok (.aload_n 0, 1) := by decide +kernel
theorem dX4_begin_30 : decode cX4_begin 30 = .ok (.dup, 1) := by decide +kernel
theorem dX4_begin_31 : decode cX4_begin 31 = .ok (.getfield 132, 3) := by decide +kernel
theorem dX4_begin_34 : decode cX4_begin 34 = .ok (.iconst 1, 1) := by decide +kernel
theorem dX4_begin_35 : decode cX4_begin 35 = .ok (.iadd, 1) := by decide +kernel
theorem dX4_begin_36 : decode cX4_begin 36 = .ok (.putfield 132, 3) := by decide +kernel
theorem dX4_begin_39 : decode cX4_begin 39 = .ok (.aload_n 3, 1) := by decide +kernel
theorem dX4_begin_40 : decode cX4_begin 40 = .ok (.aload_n 0, 1) := by decide +kernel
theorem dX4_begin_41 : decode cX4_begin 41 = .ok (.getfield 132, 3) := by decide +kernel
theorem dX4_begin_44 : decode cX4_begin 44 = .ok (.iload_n 2, 1) := by decide +kernel
theorem dX4_begin_45 : decode cX4_begin 45 = .ok (.aload_n 0, 1) := by decide +kernel
theorem dX4_begin_46 : decode cX4_begin 46 = .ok (.getfield 16, 3) := by decide +kernel
theorem dX4_begin_49 : decode cX4_begin 49 = .ok (.getfield 160, 3) := by decide +kernel
theorem dX4_begin_52 : decode cX4_begin 52 = .ok (.iload_n 2, 1) := by decide +kernel
theorem dX4_begin_53 : decode cX4_begin 53 = .ok (.iaload, 1) := by decide +kernel
theorem dX4_begin_54 : decode cX4_begin 54 = .ok (.aload_n 1, 1) := by decide +kernel
theorem dX4_begin_55 : decode cX4_begin 55 = .ok (.getfield 90, 3) := by decide +kernel
theorem dX4_begin_58 : decode cX4_begin 58 = .ok (.invokevirtual 193, 3) := by decide +kernel
theorem dX4_begin_61 : decode cX4_begin 61 = .ok (.aload_n 3, 1) := by decide +kernel
theorem dX4_begin_62 : decode cX4_begin 62 = .ok (.dup, 1) := by decide +kernel
theorem dX4_begin_63 : decode cX4_begin 63 = .ok (.getfield 186, 3) := by decide +kernel
theorem dX4_begin_66 : decode cX4_begin 66 = .ok (.iconst 1, 1) := by decide +kernel
theorem dX4_begin_67 : decode cX4_begin 67 = .ok (.iadd, 1) := by decide +kernel
theorem dX4_begin_68 : decode cX4_begin 68 = .ok (.putfield 186, 3) := by decide +kernel
theorem dX4_begin_71 : decode cX4_begin 71 = .ok (.iconst 1, 1) := by decide +kernel
theorem dX4_begin_72 : decode cX4_begin 72 = .ok (.ireturn, 1) := by decide +kernel
set_option maxRecDepth 20000 in
theorem ggX4_end_X3_writeTo : GoodIn wsX4_end wsX3_writeTo := goodIn_r _ [9, 10, 11, 12, 13, 8, 14, 15, 32, 33, 34, 35, 36, 37, 38, 39, 40] (by decide +kernel) (by decide +kernel)
set_option maxRecDepth 20000 in
theorem gX4_end_X3_writeTo : GoodIn wsX4_end (wsV RX4 197 RX3 yX3_writeTo wsX3_writeTo) := goodIn_app (goodIn_of _ (by decide +kernel)) ggX4_end_X3_writeTo
set_option maxRecDepth 20000 in
theorem ggX4_end_X3_close : GoodIn wsX4_end wsX3_close := goodIn_r _ [19, 20, 21, 22, 23, 15, 32, 33, 34, 35, 36, 37, 38, 39, 40] (by decide +kernel) (by decide +kernel)
set_option maxRecDepth 20000 in
theorem gX4_end_X3_close : GoodIn wsX4_end (wsV RX4 78 RX3 yX3_close wsX3_close) := goodIn_app (goodIn_of _ (by decide +kernel)) ggX4_end_X3_close
theorem dX4_end_0 : decode cX4_end 0 = .ok (.aload_n 1, 1) := by decide +kernel
theorem dX4_end_1 : decode cX4_end 1 = .ok (.getfield 74, 3) := by decide +kernel
theorem dX4_end_4 : decode cX4_end 4 = .ok (.astore_n 2, 1) := by decide +kernel
theorem dX4_end_5 : decode cX4_end 5 = .ok (.aload_n 2, 1) := by decide +kernel
theorem dX4_end_6 : decode cX4_end 6 = .ok (.getfield 186, 3) := by decide +kernel
theorem dX4_end_9 : decode cX4_end 9 = .ok (.iconst 1, 1) := by decide +kernel
theorem dX4_end_10 : decode cX4_end 10 = .ok (.if_icmp .ne 28, 3) := by decide +kernel
theorem dX4_end_13 : decode cX4_end 13 = .ok (.aload_n 2, 1) := by decide +kernel
theorem dX4_end_14 : decode cX4_end 14 = .ok (.aload_n 0, 1) := by decide +kernel
theorem dX4_end_15 : decode cX4_end 15 = .ok (.getfield 9, 3) := by decide +kernel
theorem dX4_end_18 : decode cX4_end 18 = .ok (.invokevirtual 197, 3) := by decide +kernel
theorem dX4_end_21 : decode cX4_end 21 = .ok (.aload_n 2, 1) := by decide +kernel
theorem dX4_end_22 : decode cX4_end 22 = .ok (.invokevirtual 78, 3) := by decide +kernel
theorem dX4_end_25 : decode cX4_end 25 = .ok (.aload_n 1, 1) := by decide +kernel
theorem dX4_end_26 : decode cX4_end 26 = .ok (.dup, 1) := by decide +kernel
theorem dX4_end_27 : decode cX4_end 27 = .ok (.getfield 201, 3) := by decide +kernel
theorem dX4_end_30 : decode cX4_end 30 = .ok (.iconst 1, 1) := by decide +kernel
theorem dX4_end_31 : decode cX4_end 31 = .ok (.iadd, 1) := by decide +kernel
theorem dX4_end_32 : decode cX4_end 32 = .ok (.putfield 201, 3) := by decide +kernel
theorem dX4_end_35 : decode cX4_end 35 = .ok (.goto 21, 3) := by decide +kernel
theorem dX4_end_38 : decode cX4_end 38 = .ok (.aload_n 2, 1) := by decide +kernel
theorem dX4_end_39 : decode cX4_end 39 = .ok (.getfield 186, 3) := by decide +kernel
theorem dX4_end_42 : decode cX4_end 42 = .ok (.iconst 1, 1) := by decide +kernel
theorem dX4_end_43 : decode cX4_end 43 = .ok (.if_icmp .le 13, 3) := by decide +kernel
theorem dX4_end_46 : decode cX4_end 46 = .ok (.aload_n 2, 1) := by decide +kernel
theorem dX4_end_47 : decode cX4_end 47 = .ok (.dup, 1) := by decide +kernel
theorem dX4_end_48 : decode cX4_end 48 = .ok (.getfield 186, 3) := by decide +kernel
theorem dX4_end_51 : decode cX4_end 51 = .ok (.iconst 1, 1) := by decide +kernel
theorem dX4_end_52 : decode cX4_end 52 = .ok (.isub, 1) := by decide +kernel
theorem dX4_end_53 : decode cX4_end 53 = .ok (.putfield 186, 3) := by decide +kernel
theorem dX4_end_56 : decode cX4_end 56 = .ok (.return_, 1) := by decide +kernel
set_option maxRecDepth 20000 in
theorem ggX4_write_X3_keep : GoodIn wsX4_write wsX3_keep := goodIn_r _ [8, 9, 10, 19, 20, 21, 22, 23, 24, 25, 26, 27] (by decide +kernel) (by decide +kernel)
set_option maxRecDepth 20000 in
theorem gX4_write_X3_keep : GoodIn wsX4_write (wsV RX4 204 RX3 yX3_keep wsX3_keep) := goodIn_app (goodIn_of _ (by decide +kernel)) ggX4_write_X3_keep
theorem dX4_write_0 : decode cX4_write 0 = .ok (.aload_n 1, 1) := by decide +kernel
theorem dX4_write_1 : decode cX4_write 1 = .ok (.getfield 74, 3) := by decide +kernel
theorem dX4_write_4 : decode cX4_write 4 = .ok (.getfield 186, 3) := by decide +kernel
theorem dX4_write_7 : decode cX4_write 7 = .ok (.ifCond .le 15, 3) := by decide +kernel
theorem dX4_write_10 : decode cX4_write 10 = .ok (.aload_n 1, 1) := by decide +kernel
theorem dX4_write_11 : decode cX4_write 11 = .ok (.getfield 74, 3) := by decide +kernel
theorem dX4_write_14 : decode cX4_write 14 = .ok (.iload_n 2, 1) := by decide +kernel
theorem dX4_write_15 : decode cX4_write 15 = .ok (.iload_n 3, 1) := by decide +kernel
theorem dX4_write_16 : decode cX4_write 16 = .ok (.invokevirtual 204, 3) := by decide +kernel
theorem dX4_write_19 : decode cX4_write 19 = .ok (.goto 10, 3) := by decide +kernel
theorem dX4_write_22 : decode cX4_write 22 = .ok (.aload_n 0, 1) := by decide +kernel
theorem dX4_write_23 : decode cX4_write 23 = .ok (.getfield 9, 3) := by decide +kernel
theorem dX4_write_26 : decode cX4_write 26 = .ok (.iload_n 2, 1) := by decide +kernel
theorem dX4_write_27 : decode cX4_write 27 = .ok (.iload_n 3, 1) := by decide +kernel
theorem dX4_write_28 : decode cX4_write 28 = .ok (.iastore, 1) := by decide +kernel
theorem dX4_write_29 : decode cX4_write 29 = .ok (.return_, 1) := by decide +kernel
set_option maxRecDepth 20000 in
theorem ggX4_mayAccess_X4_isWord : GoodIn wsX4_mayAccess wsX4_isWord := goodIn_r _ [9] (by decide +kernel) (by decide +kernel)
set_option maxRecDepth 20000 in
theorem gX4_mayAccess_X4_isWord : GoodIn wsX4_mayAccess (va_wsS RX4 97 yX4_isWord wsX4_isWord) := goodIn_app (goodIn_of _ (by decide +kernel)) ggX4_mayAccess_X4_isWord
set_option maxRecDepth 20000 in
theorem ggX4_mayAccess_X4_fault : GoodIn wsX4_mayAccess wsX4_fault := goodIn_r _ [13, 2, 3, 14, 15, 16, 17, 8, 18, 19, 1, 20, 21, 22, 23, 24, 25, 26, 27, 28, 29, 30, 31, 32, 33, 34, 35, 36, 37, 38, 39, 40, 41, 42, 43, 44, 45, 46, 47, 48, 49, 50, 51, 52, 53, 54, 76, 77, 78, 79, 80, 81, 82, 83, 84, 85, 86, 87, 88, 89, 90, 91, 92, 93, 94, 95, 96, 97, 98, 99, 100, 101, 102] (by decide +kernel) (by decide +kernel)
set_option maxRecDepth 20000 in
theorem gX4_mayAccess_X4_fault : GoodIn wsX4_mayAccess (wsV RX4 143 RX4 yX4_fault wsX4_fault) := goodIn_app (goodIn_of _ (by decide +kernel)) ggX4_mayAccess_X4_fault
set_option maxRecDepth 20000 in
theorem ggX4_mayAccess_X4_meetsOlder : GoodIn wsX4_mayAccess wsX4_meetsOlder := goodIn_r _ [58, 59, 2, 1, 21, 60, 61, 62, 48, 63, 52, 53, 93, 94, 95, 96, 97, 98, 99, 76, 77, 78, 79, 80, 81, 82, 83, 84, 85, 86, 87, 88, 89, 90, 91, 92] (by decide +kernel) (by decide +kernel)
set_option maxRecDepth 20000 in
theorem gX4_mayAccess_X4_meetsOlder : GoodIn wsX4_mayAccess (wsV RX4 207 RX4 yX4_meetsOlder wsX4_meetsOlder) := goodIn_app (goodIn_of _ (by decide +kernel)) ggX4_mayAccess_X4_meetsOlder
set_option maxRecDepth 20000 in
theorem ggX4_mayAccess_X4_breakOff : GoodIn wsX4_mayAccess wsX4_breakOff := goodIn_r _ [18, 2, 19, 1, 20, 21, 22, 23, 24, 25, 26, 27, 28, 29, 30, 31, 32, 33, 34, 35, 36, 37, 38, 39, 40, 41, 42, 43, 44, 45, 46, 47, 48, 49, 50, 51, 52, 53, 54, 76, 77, 78, 79, 80, 81, 82, 83, 93, 94, 95, 96, 97, 98, 99, 84, 85, 86, 87, 88, 89, 90, 91, 92, 100, 101, 102] (by decide +kernel) (by decide +kernel)
set_option maxRecDepth 20000 in
theorem gX4_mayAccess_X4_breakOff : GoodIn wsX4_mayAccess (wsV RX4 189 RX4 yX4_breakOff wsX4_breakOff) := goodIn_app (goodIn_of _ (by decide +kernel)) ggX4_mayAccess_X4_breakOff
set_option maxRecDepth 20000 in
theorem ggX4_mayAccess_X4_breakOffAll : GoodIn wsX4_mayAccess wsX4_breakOffAll := goodIn_r _ [67, 59, 2, 60, 61, 62, 48, 63, 52, 53, 15, 16, 17, 8, 18, 19, 1, 20, 21, 22, 23, 24, 25, 26, 27, 28, 29, 30, 31, 32, 33, 34, 35, 36, 37, 38, 39, 40, 41, 42, 43, 44, 45, 46, 47, 49, 50, 51, 54, 93, 94, 95, 96, 97, 98, 99, 76, 77, 78, 79, 80, 81, 82, 83, 84, 85, 86, 87, 88, 89, 90, 91, 92, 100, 101, 102] (by decide +kernel) (by decide +kernel)
set_option maxRecDepth 20000 in
theorem gX4_mayAccess_X4_breakOffAll : GoodIn wsX4_mayAccess (wsV RX4 100 RX4 yX4_breakOffAll wsX4_breakOffAll) := goodIn_app (goodIn_of _ (by decide +kernel)) ggX4_mayAccess_X4_breakOffAll
set_option maxRecDepth 20000 in
theorem ggX4_mayAccess_X3_mark : GoodIn wsX4_mayAccess wsX3_mark := goodIn_r _ [71, 53, 52, 84, 85, 86, 87, 88, 89, 90, 91, 92] (by decide +kernel) (by decide +kernel)
set_option maxRecDepth 20000 in
theorem gX4_mayAccess_X3_mark : GoodIn wsX4_mayAccess (wsV RX4 213 RX3 yX3_mark wsX3_mark) := goodIn_app (goodIn_of _ (by decide +kernel)) ggX4_mayAccess_X3_mark
set_option maxRecDepth 20000 in
theorem ggX4_mayAccess_X3_linesInSet : GoodIn wsX4_mayAccess wsX3_linesInSet := goodIn_r _ [75, 52, 53, 84, 85, 86, 87, 88, 89, 90, 91, 92] (by decide +kernel) (by decide +kernel)
set_option maxRecDepth 20000 in
theorem gX4_mayAccess_X3_linesInSet : GoodIn wsX4_mayAccess (wsV RX4 217 RX3 yX3_linesInSet wsX3_linesInSet) := goodIn_app (goodIn_of _ (by decide +kernel)) ggX4_mayAccess_X3_linesInSet
theorem dX4_mayAccess_0 : decode cX4_mayAccess 0 = .ok (.iload_n 2, 1) := by decide +kernel
theorem dX4_mayAccess_1 : decode cX4_mayAccess 1 = .ok (.invokestatic 97, 3) := by decide +kernel
theorem dX4_mayAccess_4 : decode cX4_mayAccess 4 = .ok (.ifCond .ne 10, 3) := by decide +kernel
theorem dX4_mayAccess_7 : decode cX4_mayAccess 7 = .ok (.aload_n 0, 1) := by decide +kernel
theorem dX4_mayAccess_8 : decode cX4_mayAccess 8 = .ok (.aload_n 1, 1) := by decide +kernel
theorem dX4_mayAccess_9 : decode cX4_mayAccess 9 = .ok (.invokevirtual 143, 3) := by decide +kernel
theorem dX4_mayAccess_12 : decode cX4_mayAccess 12 = .ok (.iconst 0, 1) := by decide +kernel
theorem dX4_mayAccess_13 : decode cX4_mayAccess 13 = .ok (.ireturn, 1) := by decide +kernel
theorem dX4_mayAccess_14 : decode cX4_mayAccess 14 = .ok (.iload_n 2, 1) := by decide +kernel
theorem dX4_mayAccess_15 : decode cX4_mayAccess 15 = .ok (.iconst 4, 1) := by decide +kernel
theorem dX4_mayAccess_16 : decode cX4_mayAccess 16 = .ok (.idiv, 1) := by decide +kernel
theorem dX4_mayAccess_17 : decode cX4_mayAccess 17 = .ok (.istore 4, 2) := by decide +kernel
theorem dX4_mayAccess_19 : decode cX4_mayAccess 19 = .ok (.aload_n 0, 1) := by decide +kernel
theorem dX4_mayAccess_20 : decode cX4_mayAccess 20 = .ok (.aload_n 1, 1) := by decide +kernel
theorem dX4_mayAccess_21 : decode cX4_mayAccess 21 = .ok (.iload 4, 2) := by decide +kernel
theorem dX4_mayAccess_23 : decode cX4_mayAccess 23 = .ok (.iload_n 3, 1) := by decide +kernel
theorem dX4_mayAccess_24 : decode cX4_mayAccess 24 = .ok (.invokevirtual 207, 3) := by decide +kernel
theorem dX4_mayAccess_27 : decode cX4_mayAccess 27 = .ok (.ifCond .eq 11, 3) := by decide +kernel
theorem dX4_mayAccess_30 : decode cX4_mayAccess 30 = .ok (.aload_n 0, 1) := by decide +kernel
theorem dX4_mayAccess_31 : decode cX4_mayAccess 31 = .ok (.aload_n 1, 1) := by decide +kernel
theorem dX4_mayAccess_32 : decode cX4_mayAccess 32 = .ok (.iconst 4, 1) := by decide +kernel
theorem dX4_mayAccess_33 : decode cX4_mayAccess 33 = .ok (.invokevirtual 189, 3) := by decide +kernel
theorem dX4_mayAccess_36 : decode cX4_mayAccess 36 = .ok (.iconst 0, 1) := by decide +kernel
theorem dX4_mayAccess_37 : decode cX4_mayAccess 37 = .ok (.ireturn, 1) := by decide +kernel
theorem dX4_mayAccess_38 : decode cX4_mayAccess 38 = .ok (.aload_n 0, 1) := by decide +kernel
theorem dX4_mayAccess_39 : decode cX4_mayAccess 39 = .ok (.aload_n 1, 1) := by decide +kernel
theorem dX4_mayAccess_40 : decode cX4_mayAccess 40 = .ok (.getfield 210, 3) := by decide +kernel
theorem dX4_mayAccess_43 : decode cX4_mayAccess 43 = .ok (.iload 4, 2) := by decide +kernel
theorem dX4_mayAccess_45 : decode cX4_mayAccess 45 = .ok (.iload_n 3, 1) := by decide +kernel
theorem dX4_mayAccess_46 : decode cX4_mayAccess 46 = .ok (.invokevirtual 100, 3) := by decide +kernel
theorem dX4_mayAccess_49 : decode cX4_mayAccess 49 = .ok (.aload_n 1, 1) := by decide +kernel
theorem dX4_mayAccess_50 : decode cX4_mayAccess 50 = .ok (.getfield 74, 3) := by decide +kernel
theorem dX4_mayAccess_53 : decode cX4_mayAccess 53 = .ok (.getfield 186, 3) := by decide +kernel
theorem dX4_mayAccess_56 : decode cX4_mayAccess 56 = .ok (.ifCond .ne 5, 3) := by decide +kernel
theorem dX4_mayAccess_59 : decode cX4_mayAccess 59 = .ok (.iconst 1, 1) := by decide +kernel
theorem dX4_mayAccess_60 : decode cX4_mayAccess 60 = .ok (.ireturn, 1) := by decide +kernel
theorem dX4_mayAccess_61 : decode cX4_mayAccess 61 = .ok (.aload_n 1, 1) := by decide +kernel
theorem dX4_mayAccess_62 : decode cX4_mayAccess 62 = .ok (.getfield 74, 3) := by decide +kernel
theorem dX4_mayAccess_65 : decode cX4_mayAccess 65 = .ok (.iload 4, 2) := by decide +kernel
theorem dX4_mayAccess_67 : decode cX4_mayAccess 67 = .ok (.iload_n 3, 1) := by decide +kernel
theorem dX4_mayAccess_68 : decode cX4_mayAccess 68 = .ok (.invokevirtual 213, 3) := by decide +kernel
theorem dX4_mayAccess_71 : decode cX4_mayAccess 71 = .ok (.aload_n 1, 1) := by decide +kernel
theorem dX4_mayAccess_72 : decode cX4_mayAccess 72 = .ok (.getfield 74, 3) := by decide +kernel
theorem dX4_mayAccess_75 : decode cX4_mayAccess 75 = .ok (.iload 4, 2) := by decide +kernel
theorem dX4_mayAccess_77 : decode cX4_mayAccess 77 = .ok (.aload_n 0, 1) := by decide +kernel
theorem dX4_mayAccess_78 : decode cX4_mayAccess 78 = .ok (.getfield 31, 3) := by decide +kernel
theorem dX4_mayAccess_81 : decode cX4_mayAccess 81 = .ok (.irem, 1) := by decide +kernel
theorem dX4_mayAccess_82 : decode cX4_mayAccess 82 = .ok (.aload_n 0, 1) := by decide +kernel
theorem dX4_mayAccess_83 : decode cX4_mayAccess 83 = .ok (.getfield 31, 3) := by decide +kernel
theorem dX4_mayAccess_86 : decode cX4_mayAccess 86 = .ok (.invokevirtual 217, 3) := by decide +kernel
theorem dX4_mayAccess_89 : decode cX4_mayAccess 89 = .ok (.aload_n 0, 1) := by decide +kernel
theorem dX4_mayAccess_90 : decode cX4_mayAccess 90 = .ok (.getfield 35, 3) := by decide +kernel
theorem dX4_mayAccess_93 : decode cX4_mayAccess 93 = .ok (.if_icmp .le 11, 3) := by decide +kernel
theorem dX4_mayAccess_96 : decode cX4_mayAccess 96 = .ok (.aload_n 0, 1) := by decide +kernel
theorem dX4_mayAccess_97 : decode cX4_mayAccess 97 = .ok (.aload_n 1, 1) := by decide +kernel
theorem dX4_mayAccess_98 : decode cX4_mayAccess 98 = .ok (.iconst 3, 1) := by decide +kernel
theorem dX4_mayAccess_99 : decode cX4_mayAccess 99 = .ok (.invokevirtual 189, 3) := by decide +kernel
theorem dX4_mayAccess_102 : decode cX4_mayAccess 102 = .ok (.iconst 0, 1) := by decide +kernel
theorem dX4_mayAccess_103 : decode cX4_mayAccess 103 = .ok (.ireturn, 1) := by decide +kernel
theorem dX4_mayAccess_104 : decode cX4_mayAccess 104 = .ok (.iconst 1, 1) := by decide +kernel
theorem dX4_mayAccess_105 : decode cX4_mayAccess 105 = .ok (.ireturn, 1) := by decide +kernel
set_option maxRecDepth 20000 in
theorem ggX4_meetsOlder_X3_touches : GoodIn wsX4_meetsOlder wsX3_touches := goodIn_r _ [9, 10, 11, 27, 28, 29, 30, 31, 32, 33, 34, 35] (by decide +kernel) (by decide +kernel)
set_option maxRecDepth 20000 in
theorem gX4_meetsOlder_X3_touches : GoodIn wsX4_meetsOlder (wsV RX4 220 RX3 yX3_touches wsX3_touches) := goodIn_app (goodIn_of _ (by decide +kernel)) ggX4_meetsOlder_X3_touches
theorem dX4_meetsOlder_0 : decode cX4_meetsOlder 0 = .ok (.iconst 0, 1) := by decide +kernel
theorem dX4_meetsOlder_1 : decode cX4_meetsOlder 1 = .ok (.istore 4, 2) := by decide +kernel
theorem dX4_meetsOlder_3 : decode cX4_meetsOlder 3 = .ok (.iload 4, 2) := by decide +kernel
theorem dX4_meetsOlder_5 : decode cX4_meetsOlder 5 = .ok (.aload_n 0, 1) := by decide +kernel
theorem dX4_meetsOlder_6 : decode cX4_meetsOlder 6 = .ok (.getfield 40, 3) := by decide +kernel
theorem dX4_meetsOlder_9 : decode cX4_meetsOlder 9 = .ok (.arraylength, 1) := by decide +kernel
theorem dX4_meetsOlder_10 : decode cX4_meetsOlder 10 = .ok (.if_icmp .ge 57, 3) := by decide +kernel
theorem dX4_meetsOlder_13 : decode cX4_meetsOlder 13 = .ok (.aload_n 0, 1) := by decide +kernel
theorem dX4_meetsOlder_14 : decode cX4_meetsOlder 14 = .ok (.getfield 40, 3) := by decide +kernel
theorem dX4_meetsOlder_17 : decode cX4_meetsOlder 17 = .ok (.iload 4, 2) := by decide +kernel
theorem dX4_meetsOlder_19 : decode cX4_meetsOlder 19 = .ok (.aaload, 1) := by decide +kernel
theorem dX4_meetsOlder_20 : decode cX4_meetsOlder 20 = .ok (.getfield 74, 3) := by decide +kernel
theorem dX4_meetsOlder_23 : decode cX4_meetsOlder 23 = .ok (.astore 5, 2) := by decide +kernel
theorem dX4_meetsOlder_25 : decode cX4_meetsOlder 25 = .ok (.iload 4, 2) := by decide +kernel
theorem dX4_meetsOlder_27 : decode cX4_meetsOlder 27 = .ok (.aload_n 1, 1) := by decide +kernel
theorem dX4_meetsOlder_28 : decode cX4_meetsOlder 28 = .ok (.getfield 210, 3) := by decide +kernel
theorem dX4_meetsOlder_31 : decode cX4_meetsOlder 31 = .ok (.if_icmp .eq 30, 3) := by decide +kernel
theorem dX4_meetsOlder_34 : decode cX4_meetsOlder 34 = .ok (.aload 5, 2) := by decide +kernel
theorem dX4_meetsOlder_36 : decode cX4_meetsOlder 36 = .ok (.iload_n 2, 1) := by decide +kernel
theorem dX4_meetsOlder_37 : decode cX4_meetsOlder 37 = .ok (.iload_n 3, 1) := by decide +kernel
theorem dX4_meetsOlder_38 : decode cX4_meetsOlder 38 = .ok (.invokevirtual 220, 3) := by decide +kernel
theorem dX4_meetsOlder_41 : decode cX4_meetsOlder 41 = .ok (.ifCond .eq 20, 3) := by decide +kernel
theorem dX4_meetsOlder_44 : decode cX4_meetsOlder 44 = .ok (.aload 5, 2) := by decide +kernel
theorem dX4_meetsOlder_46 : decode cX4_meetsOlder 46 = .ok (.getfield 224, 3) := by decide +kernel
theorem dX4_meetsOlder_49 : decode cX4_meetsOlder 49 = .ok (.aload_n 1, 1) := by decide +kernel
theorem dX4_meetsOlder_50 : decode cX4_meetsOlder 50 = .ok (.getfield 74, 3) := by decide +kernel
theorem dX4_meetsOlder_53 : decode cX4_meetsOlder 53 = .ok (.getfield 224, 3) := by decide +kernel
theorem dX4_meetsOlder_56 : decode cX4_meetsOlder 56 = .ok (.if_icmp .ge 5, 3) := by decide +kernel
theorem dX4_meetsOlder_59 : decode cX4_meetsOlder 59 = .ok (.iconst 1, 1) := by decide +kernel
theorem dX4_meetsOlder_60 : decode cX4_meetsOlder 60 = .ok (.ireturn, 1) := by decide +kernel
theorem dX4_meetsOlder_61 : decode cX4_meetsOlder 61 = .ok (.iinc 4 1, 3) := by decide +kernel
theorem dX4_meetsOlder_64 : decode cX4_meetsOlder 64 = .ok (.goto (-61), 3) := by decide +kernel
theorem dX4_meetsOlder_67 : decode cX4_meetsOlder 67 = .ok (.iconst 0, 1) := by decide +kernel
theorem dX4_meetsOlder_68 : decode cX4_meetsOlder 68 = .ok (.ireturn, 1) := by decide +kernel
set_option maxRecDepth 20000 in
theorem ggX4_breakOffAll_X3_touches : GoodIn wsX4_breakOffAll wsX3_touches := goodIn_r _ [7, 8, 9, 64, 65, 66, 67, 68, 69, 70, 71, 72] (by decide +kernel) (by decide +kernel)
