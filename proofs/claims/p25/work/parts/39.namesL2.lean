set_option maxRecDepth 20000 in
theorem ggL_reads_X6_clearText : GoodIn wsL_reads wsX6_clearText := goodIn_r _ [7, 8, 9, 194, 195, 196, 197, 198, 199, 200, 201, 202, 203, 204, 205, 206, 207, 208] (by decide +kernel) (by decide +kernel)
set_option maxRecDepth 20000 in
theorem gL_reads_X6_clearText : GoodIn wsL_reads (wsV RL 33 RX6 yX6_clearText wsX6_clearText) := goodIn_app (goodIn_of _ (by decide +kernel)) ggL_reads_X6_clearText
set_option maxRecDepth 20000 in
theorem ggL_reads_X6_type : GoodIn wsL_reads wsX6_type := goodIn_r _ [13, 14, 8, 9, 15, 16, 17, 18, 19, 20, 21, 22, 194, 195, 196, 197, 198, 199, 200, 201, 202, 203, 204, 205, 206, 207, 208] (by decide +kernel) (by decide +kernel)
set_option maxRecDepth 20000 in
theorem gL_reads_X6_type : GoodIn wsL_reads (wsV RL 27 RX6 yX6_type wsX6_type) := goodIn_app (goodIn_of _ (by decide +kernel)) ggL_reads_X6_type
set_option maxRecDepth 20000 in
theorem ggL_reads_L_types : GoodIn wsL_reads wsL_types := goodIn_r _ [26, 10, 11, 12, 6, 13, 14, 8, 9, 15, 16, 17, 18, 19, 20, 21, 22, 194, 195, 196, 197, 198, 199, 200, 201, 202, 203, 204, 205, 206, 207, 208] (by decide +kernel) (by decide +kernel)
set_option maxRecDepth 20000 in
theorem gL_reads_L_types : GoodIn wsL_reads (va_wsS RL 37 yL_types wsL_types) := goodIn_app (goodIn_of _ (by decide +kernel)) ggL_reads_L_types
set_option maxRecDepth 20000 in
theorem ggL_reads_X6_textFault : GoodIn wsL_reads wsX6_textFault := goodIn_r _ [30, 14, 8, 31, 32, 33, 34, 35, 36, 19, 37, 21, 22, 38, 39, 40, 41, 42, 43, 44, 45, 46, 47, 48, 49, 50, 51, 52, 53, 54, 55, 6, 56, 57, 58, 59, 60, 61, 62, 63, 64, 65, 66, 67, 68, 69, 70, 71, 72, 73, 74, 75, 76, 77, 78, 79, 80, 81, 82, 83, 84, 85, 86, 87, 88, 89, 90, 91, 92, 93, 94, 95, 96, 97, 98, 99, 100, 101, 102, 103, 104, 105, 106, 107, 108, 109, 110, 194, 195, 196, 197, 198, 199, 200, 201, 202, 203, 204, 205, 206, 207, 208, 209, 210, 211] (by decide +kernel) (by decide +kernel)
set_option maxRecDepth 20000 in
theorem gL_reads_X6_textFault : GoodIn wsL_reads (wsV RL 41 RX6 yX6_textFault wsX6_textFault) := goodIn_app (goodIn_of _ (by decide +kernel)) ggL_reads_X6_textFault
set_option maxRecDepth 20000 in
theorem ggL_reads_X6_read : GoodIn wsL_reads wsX6_read := goodIn_r _ [114, 14, 115, 116, 117, 118, 8, 31, 119, 120, 121, 122, 34, 35, 36, 19, 37, 21, 22, 38, 39, 40, 41, 42, 43, 44, 45, 46, 47, 48, 49, 50, 51, 52, 53, 54, 55, 6, 56, 57, 58, 59, 60, 61, 62, 63, 64, 65, 66, 67, 68, 69, 70, 71, 72, 73, 74, 75, 76, 77, 78, 79, 80, 81, 82, 83, 84, 85, 86, 87, 88, 89, 90, 91, 92, 93, 94, 95, 96, 97, 98, 99, 100, 101, 102, 103, 104, 105, 106, 107, 108, 109, 110, 123, 124, 125, 126, 127, 128, 129, 130, 131, 132, 133, 134, 135, 136, 137, 138, 139, 140, 141, 142, 143, 144, 145, 146, 147, 148, 149, 150, 151, 152, 153, 154, 155, 156, 157, 158, 159, 160, 161, 162, 163, 164, 165, 166, 167, 168, 169, 170, 171, 172, 173, 174, 175, 176, 177, 178, 179, 180, 181, 182, 183, 184, 185, 186, 187, 188, 189, 190, 191, 192, 193, 194, 195, 196, 197, 212, 213, 214, 215, 216, 217, 218, 219, 220, 221, 222, 223, 224, 225, 226, 227, 198, 199, 200, 201, 202, 203, 204, 205, 206, 207, 208, 209, 210, 211, 228, 229, 230, 231, 232] (by decide +kernel) (by decide +kernel)
set_option maxRecDepth 20000 in
theorem gL_reads_X6_read : GoodIn wsL_reads (wsV RL 45 RX6 yX6_read wsX6_read) := goodIn_app (goodIn_of _ (by decide +kernel)) ggL_reads_X6_read
theorem dL_reads_0 : decode cL_reads 0 = .ok (.iload 5, 2) := by decide +kernel
theorem dL_reads_2 : decode cL_reads 2 = .ok (.iconst 2, 1) := by decide +kernel
theorem dL_reads_3 : decode cL_reads 3 = .ok (.irem, 1) := by decide +kernel
theorem dL_reads_4 : decode cL_reads 4 = .ok (.istore 6, 2) := by decide +kernel
theorem dL_reads_6 : decode cL_reads 6 = .ok (.iconst 1, 1) := by decide +kernel
theorem dL_reads_7 : decode cL_reads 7 = .ok (.iload 5, 2) := by decide +kernel
theorem dL_reads_9 : decode cL_reads 9 = .ok (.iconst 2, 1) := by decide +kernel
theorem dL_reads_10 : decode cL_reads 10 = .ok (.idiv, 1) := by decide +kernel
theorem dL_reads_11 : decode cL_reads 11 = .ok (.iconst 4, 1) := by decide +kernel
theorem dL_reads_12 : decode cL_reads 12 = .ok (.irem, 1) := by decide +kernel
theorem dL_reads_13 : decode cL_reads 13 = .ok (.iadd, 1) := by decide +kernel
theorem dL_reads_14 : decode cL_reads 14 = .ok (.istore 7, 2) := by decide +kernel
theorem dL_reads_16 : decode cL_reads 16 = .ok (.iconst 1, 1) := by decide +kernel
theorem dL_reads_17 : decode cL_reads 17 = .ok (.iload 5, 2) := by decide +kernel
theorem dL_reads_19 : decode cL_reads 19 = .ok (.bipush 8, 2) := by decide +kernel
theorem dL_reads_21 : decode cL_reads 21 = .ok (.idiv, 1) := by decide +kernel
theorem dL_reads_22 : decode cL_reads 22 = .ok (.iconst 4, 1) := by decide +kernel
theorem dL_reads_23 : decode cL_reads 23 = .ok (.irem, 1) := by decide +kernel
theorem dL_reads_24 : decode cL_reads 24 = .ok (.iadd, 1) := by decide +kernel
theorem dL_reads_25 : decode cL_reads 25 = .ok (.istore 8, 2) := by decide +kernel
theorem dL_reads_27 : decode cL_reads 27 = .ok (.aload_n 0, 1) := by decide +kernel
theorem dL_reads_28 : decode cL_reads 28 = .ok (.invokevirtual 33, 3) := by decide +kernel
theorem dL_reads_31 : decode cL_reads 31 = .ok (.ifCond .lt 7, 3) := by decide +kernel
theorem dL_reads_34 : decode cL_reads 34 = .ok (.iconst 1, 1) := by decide +kernel
theorem dL_reads_35 : decode cL_reads 35 = .ok (.goto 4, 3) := by decide +kernel
theorem dL_reads_38 : decode cL_reads 38 = .ok (.iconst 0, 1) := by decide +kernel
theorem dL_reads_39 : decode cL_reads 39 = .ok (.istore 9, 2) := by decide +kernel
theorem dL_reads_41 : decode cL_reads 41 = .ok (.iload 6, 2) := by decide +kernel
theorem dL_reads_43 : decode cL_reads 43 = .ok (.ifCond .ne 7, 3) := by decide +kernel
theorem dL_reads_46 : decode cL_reads 46 = .ok (.aload_n 2, 1) := by decide +kernel
theorem dL_reads_47 : decode cL_reads 47 = .ok (.goto 4, 3) := by decide +kernel
theorem dL_reads_50 : decode cL_reads 50 = .ok (.aload_n 3, 1) := by decide +kernel
theorem dL_reads_51 : decode cL_reads 51 = .ok (.astore 10, 2) := by decide +kernel
theorem dL_reads_53 : decode cL_reads 53 = .ok (.iload 6, 2) := by decide +kernel
theorem dL_reads_55 : decode cL_reads 55 = .ok (.ifCond .ne 7, 3) := by decide +kernel
theorem dL_reads_58 : decode cL_reads 58 = .ok (.aload_n 3, 1) := by decide +kernel
theorem dL_reads_59 : decode cL_reads 59 = .ok (.goto 4, 3) := by decide +kernel
theorem dL_reads_62 : decode cL_reads 62 = .ok (.aload_n 2, 1) := by decide +kernel
theorem dL_reads_63 : decode cL_reads 63 = .ok (.astore 11, 2) := by decide +kernel
theorem dL_reads_65 : decode cL_reads 65 = .ok (.aload_n 1, 1) := by decide +kernel
theorem dL_reads_66 : decode cL_reads 66 = .ok (.iconst 5, 1) := by decide +kernel
theorem dL_reads_67 : decode cL_reads 67 = .ok (.iaload, 1) := by decide +kernel
theorem dL_reads_68 : decode cL_reads 68 = .ok (.ifCond .ne 7, 3) := by decide +kernel
theorem dL_reads_71 : decode cL_reads 71 = .ok (.iconst 1, 1) := by decide +kernel
theorem dL_reads_72 : decode cL_reads 72 = .ok (.goto 4, 3) := by decide +kernel
theorem dL_reads_75 : decode cL_reads 75 = .ok (.iconst 0, 1) := by decide +kernel
theorem dL_reads_76 : decode cL_reads 76 = .ok (.istore 12, 2) := by decide +kernel
theorem dL_reads_78 : decode cL_reads 78 = .ok (.iload 6, 2) := by decide +kernel
theorem dL_reads_80 : decode cL_reads 80 = .ok (.ifCond .ne 8, 3) := by decide +kernel
theorem dL_reads_83 : decode cL_reads 83 = .ok (.iload 8, 2) := by decide +kernel
theorem dL_reads_85 : decode cL_reads 85 = .ok (.goto 5, 3) := by decide +kernel
theorem dL_reads_88 : decode cL_reads 88 = .ok (.iload 7, 2) := by decide +kernel
theorem dL_reads_90 : decode cL_reads 90 = .ok (.istore 13, 2) := by decide +kernel
theorem dL_reads_92 : decode cL_reads 92 = .ok (.iconst 0, 1) := by decide +kernel
theorem dL_reads_93 : decode cL_reads 93 = .ok (.istore 14, 2) := by decide +kernel
theorem dL_reads_95 : decode cL_reads 95 = .ok (.iload 14, 2) := by decide +kernel
theorem dL_reads_97 : decode cL_reads 97 = .ok (.bipush 36, 2) := by decide +kernel
theorem dL_reads_99 : decode cL_reads 99 = .ok (.if_icmp .ge 42, 3) := by decide +kernel
theorem dL_reads_102 : decode cL_reads 102 = .ok (.iload 12, 2) := by decide +kernel
theorem dL_reads_104 : decode cL_reads 104 = .ok (.ifCond .eq 37, 3) := by decide +kernel
theorem dL_reads_107 : decode cL_reads 107 = .ok (.aload 10, 2) := by decide +kernel
theorem dL_reads_109 : decode cL_reads 109 = .ok (.iload 14, 2) := by decide +kernel
theorem dL_reads_111 : decode cL_reads 111 = .ok (.iconst 0, 1) := by decide +kernel
theorem dL_reads_112 : decode cL_reads 112 = .ok (.iastore, 1) := by decide +kernel
theorem dL_reads_113 : decode cL_reads 113 = .ok (.aload 11, 2) := by decide +kernel
theorem dL_reads_115 : decode cL_reads 115 = .ok (.iload 14, 2) := by decide +kernel
theorem dL_reads_117 : decode cL_reads 117 = .ok (.iload 13, 2) := by decide +kernel
theorem dL_reads_119 : decode cL_reads 119 = .ok (.aload_n 1, 1) := by decide +kernel
theorem dL_reads_120 : decode cL_reads 120 = .ok (.iconst 2, 1) := by decide +kernel
theorem dL_reads_121 : decode cL_reads 121 = .ok (.iaload, 1) := by decide +kernel
theorem dL_reads_122 : decode cL_reads 122 = .ok (.if_icmp .ne 11, 3) := by decide +kernel
theorem dL_reads_125 : decode cL_reads 125 = .ok (.aload 11, 2) := by decide +kernel
theorem dL_reads_127 : decode cL_reads 127 = .ok (.iload 14, 2) := by decide +kernel
theorem dL_reads_129 : decode cL_reads 129 = .ok (.iaload, 1) := by decide +kernel
theorem dL_reads_130 : decode cL_reads 130 = .ok (.goto 4, 3) := by decide +kernel
theorem dL_reads_133 : decode cL_reads 133 = .ok (.iconst 0, 1) := by decide +kernel
theorem dL_reads_134 : decode cL_reads 134 = .ok (.iastore, 1) := by decide +kernel
theorem dL_reads_135 : decode cL_reads 135 = .ok (.iinc 14 1, 3) := by decide +kernel
theorem dL_reads_138 : decode cL_reads 138 = .ok (.goto (-43), 3) := by decide +kernel
theorem dL_reads_141 : decode cL_reads 141 = .ok (.iconst 0, 1) := by decide +kernel
theorem dL_reads_142 : decode cL_reads 142 = .ok (.istore 14, 2) := by decide +kernel
theorem dL_reads_144 : decode cL_reads 144 = .ok (.iload 14, 2) := by decide +kernel
theorem dL_reads_146 : decode cL_reads 146 = .ok (.iload 7, 2) := by decide +kernel
theorem dL_reads_148 : decode cL_reads 148 = .ok (.iload 8, 2) := by decide +kernel
theorem dL_reads_150 : decode cL_reads 150 = .ok (.imul, 1) := by decide +kernel
theorem dL_reads_151 : decode cL_reads 151 = .ok (.if_icmp .ge 124, 3) := by decide +kernel
theorem dL_reads_154 : decode cL_reads 154 = .ok (.iload 5, 2) := by decide +kernel
theorem dL_reads_156 : decode cL_reads 156 = .ok (.iconst 1, 1) := by decide +kernel
theorem dL_reads_157 : decode cL_reads 157 = .ok (.iconst 3, 1) := by decide +kernel
theorem dL_reads_158 : decode cL_reads 158 = .ok (.iload 14, 2) := by decide +kernel
theorem dL_reads_160 : decode cL_reads 160 = .ok (.imul, 1) := by decide +kernel
theorem dL_reads_161 : decode cL_reads 161 = .ok (.iadd, 1) := by decide +kernel
theorem dL_reads_162 : decode cL_reads 162 = .ok (.idiv, 1) := by decide +kernel
theorem dL_reads_163 : decode cL_reads 163 = .ok (.bipush 17, 2) := by decide +kernel
theorem dL_reads_165 : decode cL_reads 165 = .ok (.iload 14, 2) := by decide +kernel
theorem dL_reads_167 : decode cL_reads 167 = .ok (.imul, 1) := by decide +kernel
theorem dL_reads_168 : decode cL_reads 168 = .ok (.iadd, 1) := by decide +kernel
theorem dL_reads_169 : decode cL_reads 169 = .ok (.sipush 199, 3) := by decide +kernel
theorem dL_reads_172 : decode cL_reads 172 = .ok (.irem, 1) := by decide +kernel
theorem dL_reads_173 : decode cL_reads 173 = .ok (.bipush 99, 2) := by decide +kernel
theorem dL_reads_175 : decode cL_reads 175 = .ok (.isub, 1) := by decide +kernel
theorem dL_reads_176 : decode cL_reads 176 = .ok (.istore 15, 2) := by decide +kernel
theorem dL_reads_178 : decode cL_reads 178 = .ok (.iload 5, 2) := by decide +kernel
theorem dL_reads_180 : decode cL_reads 180 = .ok (.iconst 3, 1) := by decide +kernel
theorem dL_reads_181 : decode cL_reads 181 = .ok (.irem, 1) := by decide +kernel
theorem dL_reads_182 : decode cL_reads 182 = .ok (.ifCond .le 11, 3) := by decide +kernel
theorem dL_reads_185 : decode cL_reads 185 = .ok (.iload 15, 2) := by decide +kernel
theorem dL_reads_187 : decode cL_reads 187 = .ok (.bipush 9, 2) := by decide +kernel
theorem dL_reads_189 : decode cL_reads 189 = .ok (.idiv, 1) := by decide +kernel
theorem dL_reads_190 : decode cL_reads 190 = .ok (.goto 5, 3) := by decide +kernel
theorem dL_reads_193 : decode cL_reads 193 = .ok (.iload 15, 2) := by decide +kernel
theorem dL_reads_195 : decode cL_reads 195 = .ok (.istore 15, 2) := by decide +kernel
theorem dL_reads_197 : decode cL_reads 197 = .ok (.iload 9, 2) := by decide +kernel
theorem dL_reads_199 : decode cL_reads 199 = .ok (.ifCond .eq 43, 3) := by decide +kernel
theorem dL_reads_202 : decode cL_reads 202 = .ok (.iload 14, 2) := by decide +kernel
theorem dL_reads_204 : decode cL_reads 204 = .ok (.ifCond .eq 25, 3) := by decide +kernel
theorem dL_reads_207 : decode cL_reads 207 = .ok (.aload_n 0, 1) := by decide +kernel
theorem dL_reads_208 : decode cL_reads 208 = .ok (.iload 14, 2) := by decide +kernel
theorem dL_reads_210 : decode cL_reads 210 = .ok (.iload 8, 2) := by decide +kernel
theorem dL_reads_212 : decode cL_reads 212 = .ok (.irem, 1) := by decide +kernel
theorem dL_reads_213 : decode cL_reads 213 = .ok (.ifCond .ne 8, 3) := by decide +kernel
theorem dL_reads_216 : decode cL_reads 216 = .ok (.bipush 59, 2) := by decide +kernel
theorem dL_reads_218 : decode cL_reads 218 = .ok (.goto 5, 3) := by decide +kernel
theorem dL_reads_221 : decode cL_reads 221 = .ok (.bipush 44, 2) := by decide +kernel
theorem dL_reads_223 : decode cL_reads 223 = .ok (.invokevirtual 27, 3) := by decide +kernel
theorem dL_reads_226 : decode cL_reads 226 = .ok (.ifCond .le 16, 3) := by decide +kernel
theorem dL_reads_229 : decode cL_reads 229 = .ok (.aload_n 0, 1) := by decide +kernel
theorem dL_reads_230 : decode cL_reads 230 = .ok (.iload 15, 2) := by decide +kernel
theorem dL_reads_232 : decode cL_reads 232 = .ok (.invokestatic 37, 3) := by decide +kernel
theorem dL_reads_235 : decode cL_reads 235 = .ok (.ifCond .eq 7, 3) := by decide +kernel
theorem dL_reads_238 : decode cL_reads 238 = .ok (.iconst 1, 1) := by decide +kernel
theorem dL_reads_239 : decode cL_reads 239 = .ok (.goto 4, 3) := by decide +kernel
theorem dL_reads_242 : decode cL_reads 242 = .ok (.iconst 0, 1) := by decide +kernel
theorem dL_reads_243 : decode cL_reads 243 = .ok (.istore 9, 2) := by decide +kernel
theorem dL_reads_245 : decode cL_reads 245 = .ok (.iload 12, 2) := by decide +kernel
theorem dL_reads_247 : decode cL_reads 247 = .ok (.ifCond .eq 22, 3) := by decide +kernel
theorem dL_reads_250 : decode cL_reads 250 = .ok (.aload 10, 2) := by decide +kernel
theorem dL_reads_252 : decode cL_reads 252 = .ok (.bipush 6, 2) := by decide +kernel
theorem dL_reads_254 : decode cL_reads 254 = .ok (.iload 14, 2) := by decide +kernel
theorem dL_reads_256 : decode cL_reads 256 = .ok (.iload 8, 2) := by decide +kernel
theorem dL_reads_258 : decode cL_reads 258 = .ok (.idiv, 1) := by decide +kernel
theorem dL_reads_259 : decode cL_reads 259 = .ok (.imul, 1) := by decide +kernel
theorem dL_reads_260 : decode cL_reads 260 = .ok (.iload 14, 2) := by decide +kernel
theorem dL_reads_262 : decode cL_reads 262 = .ok (.iload 8, 2) := by decide +kernel
theorem dL_reads_264 : decode cL_reads 264 = .ok (.irem, 1) := by decide +kernel
theorem dL_reads_265 : decode cL_reads 265 = .ok (.iadd, 1) := by decide +kernel
theorem dL_reads_266 : decode cL_reads 266 = .ok (.iload 15, 2) := by decide +kernel
theorem dL_reads_268 : decode cL_reads 268 = .ok (.iastore, 1) := by decide +kernel
theorem dL_reads_269 : decode cL_reads 269 = .ok (.iinc 14 1, 3) := by decide +kernel
theorem dL_reads_272 : decode cL_reads 272 = .ok (.goto (-128), 3) := by decide +kernel
theorem dL_reads_275 : decode cL_reads 275 = .ok (.iload 9, 2) := by decide +kernel
theorem dL_reads_277 : decode cL_reads 277 = .ok (.ifCond .eq 48, 3) := by decide +kernel
theorem dL_reads_280 : decode cL_reads 280 = .ok (.aload_n 0, 1) := by decide +kernel
theorem dL_reads_281 : decode cL_reads 281 = .ok (.iconst 0, 1) := by decide +kernel
theorem dL_reads_282 : decode cL_reads 282 = .ok (.invokevirtual 41, 3) := by decide +kernel
theorem dL_reads_285 : decode cL_reads 285 = .ok (.ldc 44, 2) := by decide +kernel
theorem dL_reads_287 : decode cL_reads 287 = .ok (.if_icmp .ne 38, 3) := by decide +kernel
theorem dL_reads_290 : decode cL_reads 290 = .ok (.aload_n 0, 1) := by decide +kernel
theorem dL_reads_291 : decode cL_reads 291 = .ok (.iload 6, 2) := by decide +kernel
theorem dL_reads_293 : decode cL_reads 293 = .ok (.invokevirtual 45, 3) := by decide +kernel
theorem dL_reads_296 : decode cL_reads 296 = .ok (.iload 12, 2) := by decide +kernel
theorem dL_reads_298 : decode cL_reads 298 = .ok (.ifCond .eq 11, 3) := by decide +kernel
theorem dL_reads_301 : decode cL_reads 301 = .ok (.iload 7, 2) := by decide +kernel
theorem dL_reads_303 : decode cL_reads 303 = .ok (.iload 8, 2) := by decide +kernel
theorem dL_reads_305 : decode cL_reads 305 = .ok (.imul, 1) := by decide +kernel
theorem dL_reads_306 : decode cL_reads 306 = .ok (.goto 5, 3) := by decide +kernel
theorem dL_reads_309 : decode cL_reads 309 = .ok (.ldc 48, 2) := by decide +kernel
theorem dL_reads_311 : decode cL_reads 311 = .ok (.if_icmp .ne 14, 3) := by decide +kernel
theorem dL_reads_314 : decode cL_reads 314 = .ok (.aload_n 0, 1) := by decide +kernel
theorem dL_reads_315 : decode cL_reads 315 = .ok (.invokevirtual 33, 3) := by decide +kernel
theorem dL_reads_318 : decode cL_reads 318 = .ok (.ifCond .le 7, 3) := by decide +kernel
theorem dL_reads_321 : decode cL_reads 321 = .ok (.iconst 1, 1) := by decide +kernel
theorem dL_reads_322 : decode cL_reads 322 = .ok (.goto 4, 3) := by decide +kernel
theorem dL_reads_325 : decode cL_reads 325 = .ok (.iconst 0, 1) := by decide +kernel
theorem dL_reads_326 : decode cL_reads 326 = .ok (.istore 9, 2) := by decide +kernel
theorem dL_reads_328 : decode cL_reads 328 = .ok (.iload 12, 2) := by decide +kernel
theorem dL_reads_330 : decode cL_reads 330 = .ok (.ifCond .eq 37, 3) := by decide +kernel
theorem dL_reads_333 : decode cL_reads 333 = .ok (.aload_n 1, 1) := by decide +kernel
theorem dL_reads_334 : decode cL_reads 334 = .ok (.iconst 2, 1) := by decide +kernel
theorem dL_reads_335 : decode cL_reads 335 = .ok (.iload 13, 2) := by decide +kernel
theorem dL_reads_337 : decode cL_reads 337 = .ok (.iastore, 1) := by decide +kernel
theorem dL_reads_338 : decode cL_reads 338 = .ok (.aload_n 1, 1) := by decide +kernel
theorem dL_reads_339 : decode cL_reads 339 = .ok (.iload 6, 2) := by decide +kernel
theorem dL_reads_341 : decode cL_reads 341 = .ok (.ifCond .ne 7, 3) := by decide +kernel
theorem dL_reads_344 : decode cL_reads 344 = .ok (.iconst 1, 1) := by decide +kernel
theorem dL_reads_345 : decode cL_reads 345 = .ok (.goto 4, 3) := by decide +kernel
theorem dL_reads_348 : decode cL_reads 348 = .ok (.iconst 3, 1) := by decide +kernel
theorem dL_reads_349 : decode cL_reads 349 = .ok (.iload 6, 2) := by decide +kernel
theorem dL_reads_351 : decode cL_reads 351 = .ok (.ifCond .ne 8, 3) := by decide +kernel
theorem dL_reads_354 : decode cL_reads 354 = .ok (.iload 7, 2) := by decide +kernel
theorem dL_reads_356 : decode cL_reads 356 = .ok (.goto 5, 3) := by decide +kernel
theorem dL_reads_359 : decode cL_reads 359 = .ok (.iload 8, 2) := by decide +kernel
theorem dL_reads_361 : decode cL_reads 361 = .ok (.iastore, 1) := by decide +kernel
theorem dL_reads_362 : decode cL_reads 362 = .ok (.aload 4, 2) := by decide +kernel
theorem dL_reads_364 : decode cL_reads 364 = .ok (.iconst 0, 1) := by decide +kernel
theorem dL_reads_365 : decode cL_reads 365 = .ok (.lconst 0, 1) := by decide +kernel
theorem dL_reads_366 : decode cL_reads 366 = .ok (.lastore, 1) := by decide +kernel
theorem dL_reads_367 : decode cL_reads 367 = .ok (.iload 9, 2) := by decide +kernel
theorem dL_reads_369 : decode cL_reads 369 = .ok (.ireturn, 1) := by decide +kernel
