set_option maxRecDepth 20000 in
theorem ggL_rigs_L_set : GoodIn wsL_rigs wsL_set := goodIn_ca (goodIn_ca (goodIn_ca (goodIn_r _ [215, 9, 10, 11, 216, 217, 218, 15, 219, 85, 41, 42, 43, 44, 17, 18, 45, 22, 23, 24, 25, 26, 220, 221, 222, 223, 224, 225, 226, 227, 228, 229, 230, 231, 232, 233, 99, 234, 101, 235, 236, 237, 238, 239, 84, 240, 241, 242, 243, 244, 19, 20, 157, 245, 246, 247, 104, 248, 249, 250, 251, 252, 253, 254, 255, 256, 265, 266, 267, 268, 269, 270, 271, 272, 273, 274, 275, 276, 277, 278, 279] (by decide +kernel) (by decide +kernel)) (goodIn_sub (fun _ h => List.mem_cons_of_mem _ (List.mem_append_left _ (List.mem_append_left _ (List.mem_append_right _ h)))) (by decide +kernel))) (goodIn_sub (fun _ h => List.mem_cons_of_mem _ (List.mem_append_right _ h)) (by decide +kernel))) (goodIn_sub (fun _ h => List.mem_cons_of_mem _ (List.mem_append_left _ (List.mem_append_right _ h))) (by decide +kernel))
set_option maxRecDepth 20000 in
theorem gL_rigs_L_set : GoodIn wsL_rigs (va_wsS RL 122 yL_set wsL_set) := goodIn_app (goodIn_of _ (by decide +kernel)) ggL_rigs_L_set
theorem dL_rigs_0 : decode cL_rigs 0 = .ok (.iload_n 2, 1) := by decide +kernel
theorem dL_rigs_1 : decode cL_rigs 1 = .ok (.aload_n 3, 1) := by decide +kernel
theorem dL_rigs_2 : decode cL_rigs 2 = .ok (.iconst 3, 1) := by decide +kernel
theorem dL_rigs_3 : decode cL_rigs 3 = .ok (.iaload, 1) := by decide +kernel
theorem dL_rigs_4 : decode cL_rigs 4 = .ok (.iconst 1, 1) := by decide +kernel
theorem dL_rigs_5 : decode cL_rigs 5 = .ok (.iadd, 1) := by decide +kernel
theorem dL_rigs_6 : decode cL_rigs 6 = .ok (.invokestatic 98, 3) := by decide +kernel
theorem dL_rigs_9 : decode cL_rigs 9 = .ok (.iload_n 2, 1) := by decide +kernel
theorem dL_rigs_10 : decode cL_rigs 10 = .ok (.bipush 11, 2) := by decide +kernel
theorem dL_rigs_12 : decode cL_rigs 12 = .ok (.ishr, 1) := by decide +kernel
theorem dL_rigs_13 : decode cL_rigs 13 = .ok (.bipush 19, 2) := by decide +kernel
theorem dL_rigs_15 : decode cL_rigs 15 = .ok (.invokestatic 98, 3) := by decide +kernel
theorem dL_rigs_18 : decode cL_rigs 18 = .ok (.ifCond .ne 7, 3) := by decide +kernel
theorem dL_rigs_21 : decode cL_rigs 21 = .ok (.iconst 1, 1) := by decide +kernel
theorem dL_rigs_22 : decode cL_rigs 22 = .ok (.goto 4, 3) := by decide +kernel
theorem dL_rigs_25 : decode cL_rigs 25 = .ok (.iconst 0, 1) := by decide +kernel
theorem dL_rigs_26 : decode cL_rigs 26 = .ok (.isub, 1) := by decide +kernel
theorem dL_rigs_27 : decode cL_rigs 27 = .ok (.istore 6, 2) := by decide +kernel
theorem dL_rigs_29 : decode cL_rigs 29 = .ok (.iload 6, 2) := by decide +kernel
theorem dL_rigs_31 : decode cL_rigs 31 = .ok (.ifCond .lt 15, 3) := by decide +kernel
theorem dL_rigs_34 : decode cL_rigs 34 = .ok (.iload 6, 2) := by decide +kernel
theorem dL_rigs_36 : decode cL_rigs 36 = .ok (.aload_n 3, 1) := by decide +kernel
theorem dL_rigs_37 : decode cL_rigs 37 = .ok (.iconst 3, 1) := by decide +kernel
theorem dL_rigs_38 : decode cL_rigs 38 = .ok (.iaload, 1) := by decide +kernel
theorem dL_rigs_39 : decode cL_rigs 39 = .ok (.if_icmp .ge 7, 3) := by decide +kernel
theorem dL_rigs_42 : decode cL_rigs 42 = .ok (.iconst 1, 1) := by decide +kernel
theorem dL_rigs_43 : decode cL_rigs 43 = .ok (.goto 4, 3) := by decide +kernel
theorem dL_rigs_46 : decode cL_rigs 46 = .ok (.iconst 0, 1) := by decide +kernel
theorem dL_rigs_47 : decode cL_rigs 47 = .ok (.istore 7, 2) := by decide +kernel
theorem dL_rigs_49 : decode cL_rigs 49 = .ok (.iload_n 1, 1) := by decide +kernel
theorem dL_rigs_50 : decode cL_rigs 50 = .ok (.ifCond .ne 217, 3) := by decide +kernel
theorem dL_rigs_53 : decode cL_rigs 53 = .ok (.iload_n 2, 1) := by decide +kernel
theorem dL_rigs_54 : decode cL_rigs 54 = .ok (.iconst 2, 1) := by decide +kernel
theorem dL_rigs_55 : decode cL_rigs 55 = .ok (.ishr, 1) := by decide +kernel
theorem dL_rigs_56 : decode cL_rigs 56 = .ok (.bipush 20, 2) := by decide +kernel
theorem dL_rigs_58 : decode cL_rigs 58 = .ok (.invokestatic 98, 3) := by decide +kernel
theorem dL_rigs_61 : decode cL_rigs 61 = .ok (.ifCond .ne 7, 3) := by decide +kernel
theorem dL_rigs_64 : decode cL_rigs 64 = .ok (.iconst 2, 1) := by decide +kernel
theorem dL_rigs_65 : decode cL_rigs 65 = .ok (.goto 10, 3) := by decide +kernel
theorem dL_rigs_68 : decode cL_rigs 68 = .ok (.iload_n 2, 1) := by decide +kernel
theorem dL_rigs_69 : decode cL_rigs 69 = .ok (.iconst 2, 1) := by decide +kernel
theorem dL_rigs_70 : decode cL_rigs 70 = .ok (.ishr, 1) := by decide +kernel
theorem dL_rigs_71 : decode cL_rigs 71 = .ok (.iconst 2, 1) := by decide +kernel
theorem dL_rigs_72 : decode cL_rigs 72 = .ok (.invokestatic 98, 3) := by decide +kernel
theorem dL_rigs_75 : decode cL_rigs 75 = .ok (.istore 8, 2) := by decide +kernel
theorem dL_rigs_77 : decode cL_rigs 77 = .ok (.iload_n 2, 1) := by decide +kernel
theorem dL_rigs_78 : decode cL_rigs 78 = .ok (.iconst 5, 1) := by decide +kernel
theorem dL_rigs_79 : decode cL_rigs 79 = .ok (.ishr, 1) := by decide +kernel
theorem dL_rigs_80 : decode cL_rigs 80 = .ok (.bipush 40, 2) := by decide +kernel
theorem dL_rigs_82 : decode cL_rigs 82 = .ok (.invokestatic 98, 3) := by decide +kernel
theorem dL_rigs_85 : decode cL_rigs 85 = .ok (.ifCond .ne 8, 3) := by decide +kernel
theorem dL_rigs_88 : decode cL_rigs 88 = .ok (.bipush 101, 2) := by decide +kernel
theorem dL_rigs_90 : decode cL_rigs 90 = .ok (.goto 11, 3) := by decide +kernel
theorem dL_rigs_93 : decode cL_rigs 93 = .ok (.iload_n 2, 1) := by decide +kernel
theorem dL_rigs_94 : decode cL_rigs 94 = .ok (.iconst 5, 1) := by decide +kernel
theorem dL_rigs_95 : decode cL_rigs 95 = .ok (.ishr, 1) := by decide +kernel
theorem dL_rigs_96 : decode cL_rigs 96 = .ok (.bipush 16, 2) := by decide +kernel
theorem dL_rigs_98 : decode cL_rigs 98 = .ok (.invokestatic 98, 3) := by decide +kernel
theorem dL_rigs_101 : decode cL_rigs 101 = .ok (.istore 9, 2) := by decide +kernel
theorem dL_rigs_103 : decode cL_rigs 103 = .ok (.iload_n 2, 1) := by decide +kernel
theorem dL_rigs_104 : decode cL_rigs 104 = .ok (.bipush 7, 2) := by decide +kernel
theorem dL_rigs_106 : decode cL_rigs 106 = .ok (.ishr, 1) := by decide +kernel
theorem dL_rigs_107 : decode cL_rigs 107 = .ok (.bipush 40, 2) := by decide +kernel
theorem dL_rigs_109 : decode cL_rigs 109 = .ok (.invokestatic 98, 3) := by decide +kernel
theorem dL_rigs_112 : decode cL_rigs 112 = .ok (.ifCond .ne 7, 3) := by decide +kernel
theorem dL_rigs_115 : decode cL_rigs 115 = .ok (.iconst 0, 1) := by decide +kernel
theorem dL_rigs_116 : decode cL_rigs 116 = .ok (.goto 15, 3) := by decide +kernel
theorem dL_rigs_119 : decode cL_rigs 119 = .ok (.bipush 10, 2) := by decide +kernel
theorem dL_rigs_121 : decode cL_rigs 121 = .ok (.iload_n 2, 1) := by decide +kernel
theorem dL_rigs_122 : decode cL_rigs 122 = .ok (.bipush 7, 2) := by decide +kernel
theorem dL_rigs_124 : decode cL_rigs 124 = .ok (.ishr, 1) := by decide +kernel
theorem dL_rigs_125 : decode cL_rigs 125 = .ok (.bipush 60, 2) := by decide +kernel
theorem dL_rigs_127 : decode cL_rigs 127 = .ok (.invokestatic 98, 3) := by decide +kernel
theorem dL_rigs_130 : decode cL_rigs 130 = .ok (.iadd, 1) := by decide +kernel
theorem dL_rigs_131 : decode cL_rigs 131 = .ok (.istore 10, 2) := by decide +kernel
theorem dL_rigs_133 : decode cL_rigs 133 = .ok (.iload 9, 2) := by decide +kernel
theorem dL_rigs_135 : decode cL_rigs 135 = .ok (.bipush 101, 2) := by decide +kernel
theorem dL_rigs_137 : decode cL_rigs 137 = .ok (.if_icmp .ge 12, 3) := by decide +kernel
theorem dL_rigs_140 : decode cL_rigs 140 = .ok (.iload 10, 2) := by decide +kernel
theorem dL_rigs_142 : decode cL_rigs 142 = .ok (.ifCond .le 7, 3) := by decide +kernel
theorem dL_rigs_145 : decode cL_rigs 145 = .ok (.iconst 1, 1) := by decide +kernel
theorem dL_rigs_146 : decode cL_rigs 146 = .ok (.goto 4, 3) := by decide +kernel
theorem dL_rigs_149 : decode cL_rigs 149 = .ok (.iconst 0, 1) := by decide +kernel
theorem dL_rigs_150 : decode cL_rigs 150 = .ok (.istore 11, 2) := by decide +kernel
theorem dL_rigs_152 : decode cL_rigs 152 = .ok (.iload 8, 2) := by decide +kernel
theorem dL_rigs_154 : decode cL_rigs 154 = .ok (.iconst 2, 1) := by decide +kernel
theorem dL_rigs_155 : decode cL_rigs 155 = .ok (.if_icmp .ge 20, 3) := by decide +kernel
theorem dL_rigs_158 : decode cL_rigs 158 = .ok (.iload 11, 2) := by decide +kernel
theorem dL_rigs_160 : decode cL_rigs 160 = .ok (.ifCond .eq 15, 3) := by decide +kernel
theorem dL_rigs_163 : decode cL_rigs 163 = .ok (.aload_n 3, 1) := by decide +kernel
theorem dL_rigs_164 : decode cL_rigs 164 = .ok (.iconst 1, 1) := by decide +kernel
theorem dL_rigs_165 : decode cL_rigs 165 = .ok (.iload 8, 2) := by decide +kernel
theorem dL_rigs_167 : decode cL_rigs 167 = .ok (.iadd, 1) := by decide +kernel
theorem dL_rigs_168 : decode cL_rigs 168 = .ok (.iaload, 1) := by decide +kernel
theorem dL_rigs_169 : decode cL_rigs 169 = .ok (.iconst 2, 1) := by decide +kernel
theorem dL_rigs_170 : decode cL_rigs 170 = .ok (.if_icmp .ne 5, 3) := by decide +kernel
theorem dL_rigs_173 : decode cL_rigs 173 = .ok (.iconst 1, 1) := by decide +kernel
theorem dL_rigs_174 : decode cL_rigs 174 = .ok (.ireturn, 1) := by decide +kernel
theorem dL_rigs_175 : decode cL_rigs 175 = .ok (.iload 8, 2) := by decide +kernel
theorem dL_rigs_177 : decode cL_rigs 177 = .ok (.iconst 1, 1) := by decide +kernel
theorem dL_rigs_178 : decode cL_rigs 178 = .ok (.if_icmp .le 8, 3) := by decide +kernel
theorem dL_rigs_181 : decode cL_rigs 181 = .ok (.bipush (-101), 2) := by decide +kernel
theorem dL_rigs_183 : decode cL_rigs 183 = .ok (.goto 19, 3) := by decide +kernel
theorem dL_rigs_186 : decode cL_rigs 186 = .ok (.iload 11, 2) := by decide +kernel
theorem dL_rigs_188 : decode cL_rigs 188 = .ok (.ifCond .ne 8, 3) := by decide +kernel
theorem dL_rigs_191 : decode cL_rigs 191 = .ok (.bipush (-102), 2) := by decide +kernel
theorem dL_rigs_193 : decode cL_rigs 193 = .ok (.goto 9, 3) := by decide +kernel
theorem dL_rigs_196 : decode cL_rigs 196 = .ok (.aload_n 3, 1) := by decide +kernel
theorem dL_rigs_197 : decode cL_rigs 197 = .ok (.iconst 1, 1) := by decide +kernel
theorem dL_rigs_198 : decode cL_rigs 198 = .ok (.iload 8, 2) := by decide +kernel
theorem dL_rigs_200 : decode cL_rigs 200 = .ok (.iadd, 1) := by decide +kernel
theorem dL_rigs_201 : decode cL_rigs 201 = .ok (.iaload, 1) := by decide +kernel
theorem dL_rigs_202 : decode cL_rigs 202 = .ok (.istore 12, 2) := by decide +kernel
theorem dL_rigs_204 : decode cL_rigs 204 = .ok (.iload 12, 2) := by decide +kernel
theorem dL_rigs_206 : decode cL_rigs 206 = .ok (.ifCond .lt 39, 3) := by decide +kernel
theorem dL_rigs_209 : decode cL_rigs 209 = .ok (.aload 4, 2) := by decide +kernel
theorem dL_rigs_211 : decode cL_rigs 211 = .ok (.iconst 2, 1) := by decide +kernel
theorem dL_rigs_212 : decode cL_rigs 212 = .ok (.iload 8, 2) := by decide +kernel
theorem dL_rigs_214 : decode cL_rigs 214 = .ok (.imul, 1) := by decide +kernel
theorem dL_rigs_215 : decode cL_rigs 215 = .ok (.iload 12, 2) := by decide +kernel
theorem dL_rigs_217 : decode cL_rigs 217 = .ok (.iadd, 1) := by decide +kernel
theorem dL_rigs_218 : decode cL_rigs 218 = .ok (.iload 9, 2) := by decide +kernel
theorem dL_rigs_220 : decode cL_rigs 220 = .ok (.iastore, 1) := by decide +kernel
theorem dL_rigs_221 : decode cL_rigs 221 = .ok (.aload 4, 2) := by decide +kernel
theorem dL_rigs_223 : decode cL_rigs 223 = .ok (.iconst 4, 1) := by decide +kernel
theorem dL_rigs_224 : decode cL_rigs 224 = .ok (.iconst 2, 1) := by decide +kernel
theorem dL_rigs_225 : decode cL_rigs 225 = .ok (.iload 8, 2) := by decide +kernel
theorem dL_rigs_227 : decode cL_rigs 227 = .ok (.imul, 1) := by decide +kernel
theorem dL_rigs_228 : decode cL_rigs 228 = .ok (.iadd, 1) := by decide +kernel
theorem dL_rigs_229 : decode cL_rigs 229 = .ok (.iload 12, 2) := by decide +kernel
theorem dL_rigs_231 : decode cL_rigs 231 = .ok (.iadd, 1) := by decide +kernel
theorem dL_rigs_232 : decode cL_rigs 232 = .ok (.iload 10, 2) := by decide +kernel
theorem dL_rigs_234 : decode cL_rigs 234 = .ok (.iastore, 1) := by decide +kernel
theorem dL_rigs_235 : decode cL_rigs 235 = .ok (.aload_n 3, 1) := by decide +kernel
theorem dL_rigs_236 : decode cL_rigs 236 = .ok (.iconst 1, 1) := by decide +kernel
theorem dL_rigs_237 : decode cL_rigs 237 = .ok (.iload 8, 2) := by decide +kernel
theorem dL_rigs_239 : decode cL_rigs 239 = .ok (.iadd, 1) := by decide +kernel
theorem dL_rigs_240 : decode cL_rigs 240 = .ok (.dup2, 1) := by decide +kernel
theorem dL_rigs_241 : decode cL_rigs 241 = .ok (.iaload, 1) := by decide +kernel
theorem dL_rigs_242 : decode cL_rigs 242 = .ok (.iconst 1, 1) := by decide +kernel
theorem dL_rigs_243 : decode cL_rigs 243 = .ok (.iadd, 1) := by decide +kernel
theorem dL_rigs_244 : decode cL_rigs 244 = .ok (.iastore, 1) := by decide +kernel
theorem dL_rigs_245 : decode cL_rigs 245 = .ok (.aload_n 0, 1) := by decide +kernel
theorem dL_rigs_246 : decode cL_rigs 246 = .ok (.iconst 0, 1) := by decide +kernel
theorem dL_rigs_247 : decode cL_rigs 247 = .ok (.iload 8, 2) := by decide +kernel
theorem dL_rigs_249 : decode cL_rigs 249 = .ok (.iload 9, 2) := by decide +kernel
theorem dL_rigs_251 : decode cL_rigs 251 = .ok (.iload 10, 2) := by decide +kernel
theorem dL_rigs_253 : decode cL_rigs 253 = .ok (.invokestatic 101, 3) := by decide +kernel
theorem dL_rigs_256 : decode cL_rigs 256 = .ok (.iload 12, 2) := by decide +kernel
theorem dL_rigs_258 : decode cL_rigs 258 = .ok (.if_icmp .ne 7, 3) := by decide +kernel
theorem dL_rigs_261 : decode cL_rigs 261 = .ok (.iconst 1, 1) := by decide +kernel
theorem dL_rigs_262 : decode cL_rigs 262 = .ok (.goto 4, 3) := by decide +kernel
theorem dL_rigs_265 : decode cL_rigs 265 = .ok (.iconst 0, 1) := by decide +kernel
theorem dL_rigs_266 : decode cL_rigs 266 = .ok (.ireturn, 1) := by decide +kernel
theorem dL_rigs_267 : decode cL_rigs 267 = .ok (.iload_n 1, 1) := by decide +kernel
theorem dL_rigs_268 : decode cL_rigs 268 = .ok (.iconst 1, 1) := by decide +kernel
theorem dL_rigs_269 : decode cL_rigs 269 = .ok (.if_icmp .ne 179, 3) := by decide +kernel
theorem dL_rigs_272 : decode cL_rigs 272 = .ok (.iload_n 2, 1) := by decide +kernel
theorem dL_rigs_273 : decode cL_rigs 273 = .ok (.bipush 40, 2) := by decide +kernel
theorem dL_rigs_275 : decode cL_rigs 275 = .ok (.invokestatic 98, 3) := by decide +kernel
theorem dL_rigs_278 : decode cL_rigs 278 = .ok (.ifCond .ne 7, 3) := by decide +kernel
theorem dL_rigs_281 : decode cL_rigs 281 = .ok (.iconst 4, 1) := by decide +kernel
theorem dL_rigs_282 : decode cL_rigs 282 = .ok (.goto 10, 3) := by decide +kernel
theorem dL_rigs_285 : decode cL_rigs 285 = .ok (.iload_n 2, 1) := by decide +kernel
theorem dL_rigs_286 : decode cL_rigs 286 = .ok (.iconst 2, 1) := by decide +kernel
theorem dL_rigs_287 : decode cL_rigs 287 = .ok (.ishr, 1) := by decide +kernel
theorem dL_rigs_288 : decode cL_rigs 288 = .ok (.iconst 4, 1) := by decide +kernel
theorem dL_rigs_289 : decode cL_rigs 289 = .ok (.invokestatic 98, 3) := by decide +kernel
theorem dL_rigs_292 : decode cL_rigs 292 = .ok (.istore 8, 2) := by decide +kernel
theorem dL_rigs_294 : decode cL_rigs 294 = .ok (.iload_n 2, 1) := by decide +kernel
theorem dL_rigs_295 : decode cL_rigs 295 = .ok (.iconst 5, 1) := by decide +kernel
theorem dL_rigs_296 : decode cL_rigs 296 = .ok (.ishr, 1) := by decide +kernel
theorem dL_rigs_297 : decode cL_rigs 297 = .ok (.bipush 40, 2) := by decide +kernel
theorem dL_rigs_299 : decode cL_rigs 299 = .ok (.invokestatic 98, 3) := by decide +kernel
theorem dL_rigs_302 : decode cL_rigs 302 = .ok (.ifCond .ne 8, 3) := by decide +kernel
theorem dL_rigs_305 : decode cL_rigs 305 = .ok (.bipush 21, 2) := by decide +kernel
theorem dL_rigs_307 : decode cL_rigs 307 = .ok (.goto 11, 3) := by decide +kernel
theorem dL_rigs_310 : decode cL_rigs 310 = .ok (.iload_n 2, 1) := by decide +kernel
theorem dL_rigs_311 : decode cL_rigs 311 = .ok (.iconst 5, 1) := by decide +kernel
theorem dL_rigs_312 : decode cL_rigs 312 = .ok (.ishr, 1) := by decide +kernel
theorem dL_rigs_313 : decode cL_rigs 313 = .ok (.bipush 21, 2) := by decide +kernel
theorem dL_rigs_315 : decode cL_rigs 315 = .ok (.invokestatic 98, 3) := by decide +kernel
theorem dL_rigs_318 : decode cL_rigs 318 = .ok (.istore 9, 2) := by decide +kernel
theorem dL_rigs_320 : decode cL_rigs 320 = .ok (.iload 8, 2) := by decide +kernel
theorem dL_rigs_322 : decode cL_rigs 322 = .ok (.iconst 4, 1) := by decide +kernel
theorem dL_rigs_323 : decode cL_rigs 323 = .ok (.if_icmp .ge 14, 3) := by decide +kernel
theorem dL_rigs_326 : decode cL_rigs 326 = .ok (.iload 9, 2) := by decide +kernel
theorem dL_rigs_328 : decode cL_rigs 328 = .ok (.bipush 21, 2) := by decide +kernel
theorem dL_rigs_330 : decode cL_rigs 330 = .ok (.if_icmp .ge 7, 3) := by decide +kernel
theorem dL_rigs_333 : decode cL_rigs 333 = .ok (.iconst 1, 1) := by decide +kernel
theorem dL_rigs_334 : decode cL_rigs 334 = .ok (.goto 4, 3) := by decide +kernel
theorem dL_rigs_337 : decode cL_rigs 337 = .ok (.iconst 0, 1) := by decide +kernel
theorem dL_rigs_338 : decode cL_rigs 338 = .ok (.istore 10, 2) := by decide +kernel
theorem dL_rigs_340 : decode cL_rigs 340 = .ok (.iload 10, 2) := by decide +kernel
theorem dL_rigs_342 : decode cL_rigs 342 = .ok (.ifCond .eq 12, 3) := by decide +kernel
theorem dL_rigs_345 : decode cL_rigs 345 = .ok (.aload_n 3, 1) := by decide +kernel
theorem dL_rigs_346 : decode cL_rigs 346 = .ok (.iconst 3, 1) := by decide +kernel
theorem dL_rigs_347 : decode cL_rigs 347 = .ok (.iaload, 1) := by decide +kernel
theorem dL_rigs_348 : decode cL_rigs 348 = .ok (.iconst 5, 1) := by decide +kernel
theorem dL_rigs_349 : decode cL_rigs 349 = .ok (.if_icmp .ne 5, 3) := by decide +kernel
theorem dL_rigs_352 : decode cL_rigs 352 = .ok (.iconst 1, 1) := by decide +kernel
theorem dL_rigs_353 : decode cL_rigs 353 = .ok (.ireturn, 1) := by decide +kernel
theorem dL_rigs_354 : decode cL_rigs 354 = .ok (.iload 10, 2) := by decide +kernel
theorem dL_rigs_356 : decode cL_rigs 356 = .ok (.ifCond .eq 58, 3) := by decide +kernel
theorem dL_rigs_359 : decode cL_rigs 359 = .ok (.aload 5, 2) := by decide +kernel
theorem dL_rigs_361 : decode cL_rigs 361 = .ok (.aload_n 3, 1) := by decide +kernel
theorem dL_rigs_362 : decode cL_rigs 362 = .ok (.iconst 3, 1) := by decide +kernel
theorem dL_rigs_363 : decode cL_rigs 363 = .ok (.iaload, 1) := by decide +kernel
theorem dL_rigs_364 : decode cL_rigs 364 = .ok (.iload 8, 2) := by decide +kernel
theorem dL_rigs_366 : decode cL_rigs 366 = .ok (.iastore, 1) := by decide +kernel
theorem dL_rigs_367 : decode cL_rigs 367 = .ok (.aload 5, 2) := by decide +kernel
theorem dL_rigs_369 : decode cL_rigs 369 = .ok (.iconst 5, 1) := by decide +kernel
theorem dL_rigs_370 : decode cL_rigs 370 = .ok (.aload_n 3, 1) := by decide +kernel
theorem dL_rigs_371 : decode cL_rigs 371 = .ok (.iconst 3, 1) := by decide +kernel
theorem dL_rigs_372 : decode cL_rigs 372 = .ok (.iaload, 1) := by decide +kernel
theorem dL_rigs_373 : decode cL_rigs 373 = .ok (.iadd, 1) := by decide +kernel
theorem dL_rigs_374 : decode cL_rigs 374 = .ok (.iload 9, 2) := by decide +kernel
theorem dL_rigs_376 : decode cL_rigs 376 = .ok (.iastore, 1) := by decide +kernel
theorem dL_rigs_377 : decode cL_rigs 377 = .ok (.aload 5, 2) := by decide +kernel
theorem dL_rigs_379 : decode cL_rigs 379 = .ok (.bipush 10, 2) := by decide +kernel
theorem dL_rigs_381 : decode cL_rigs 381 = .ok (.aload_n 3, 1) := by decide +kernel
theorem dL_rigs_382 : decode cL_rigs 382 = .ok (.iconst 3, 1) := by decide +kernel
theorem dL_rigs_383 : decode cL_rigs 383 = .ok (.iaload, 1) := by decide +kernel
theorem dL_rigs_384 : decode cL_rigs 384 = .ok (.iadd, 1) := by decide +kernel
theorem dL_rigs_385 : decode cL_rigs 385 = .ok (.iconst (-1), 1) := by decide +kernel
theorem dL_rigs_386 : decode cL_rigs 386 = .ok (.iastore, 1) := by decide +kernel
theorem dL_rigs_387 : decode cL_rigs 387 = .ok (.aload 5, 2) := by decide +kernel
theorem dL_rigs_389 : decode cL_rigs 389 = .ok (.bipush 20, 2) := by decide +kernel
theorem dL_rigs_391 : decode cL_rigs 391 = .ok (.aload_n 3, 1) := by decide +kernel
theorem dL_rigs_392 : decode cL_rigs 392 = .ok (.iconst 3, 1) := by decide +kernel
theorem dL_rigs_393 : decode cL_rigs 393 = .ok (.iaload, 1) := by decide +kernel
theorem dL_rigs_394 : decode cL_rigs 394 = .ok (.iadd, 1) := by decide +kernel
theorem dL_rigs_395 : decode cL_rigs 395 = .ok (.iconst (-1), 1) := by decide +kernel
theorem dL_rigs_396 : decode cL_rigs 396 = .ok (.iastore, 1) := by decide +kernel
theorem dL_rigs_397 : decode cL_rigs 397 = .ok (.aload 5, 2) := by decide +kernel
theorem dL_rigs_399 : decode cL_rigs 399 = .ok (.bipush 25, 2) := by decide +kernel
theorem dL_rigs_401 : decode cL_rigs 401 = .ok (.aload_n 3, 1) := by decide +kernel
theorem dL_rigs_402 : decode cL_rigs 402 = .ok (.iconst 3, 1) := by decide +kernel
theorem dL_rigs_403 : decode cL_rigs 403 = .ok (.iaload, 1) := by decide +kernel
theorem dL_rigs_404 : decode cL_rigs 404 = .ok (.iadd, 1) := by decide +kernel
theorem dL_rigs_405 : decode cL_rigs 405 = .ok (.iconst (-1), 1) := by decide +kernel
theorem dL_rigs_406 : decode cL_rigs 406 = .ok (.iastore, 1) := by decide +kernel
theorem dL_rigs_407 : decode cL_rigs 407 = .ok (.aload_n 3, 1) := by decide +kernel
theorem dL_rigs_408 : decode cL_rigs 408 = .ok (.iconst 3, 1) := by decide +kernel
theorem dL_rigs_409 : decode cL_rigs 409 = .ok (.dup2, 1) := by decide +kernel
theorem dL_rigs_410 : decode cL_rigs 410 = .ok (.iaload, 1) := by decide +kernel
theorem dL_rigs_411 : decode cL_rigs 411 = .ok (.iconst 1, 1) := by decide +kernel
theorem dL_rigs_412 : decode cL_rigs 412 = .ok (.iadd, 1) := by decide +kernel
theorem dL_rigs_413 : decode cL_rigs 413 = .ok (.iastore, 1) := by decide +kernel
theorem dL_rigs_414 : decode cL_rigs 414 = .ok (.aload_n 0, 1) := by decide +kernel
theorem dL_rigs_415 : decode cL_rigs 415 = .ok (.iconst 0, 1) := by decide +kernel
theorem dL_rigs_416 : decode cL_rigs 416 = .ok (.iload 8, 2) := by decide +kernel
theorem dL_rigs_418 : decode cL_rigs 418 = .ok (.iload 9, 2) := by decide +kernel
theorem dL_rigs_420 : decode cL_rigs 420 = .ok (.iconst 0, 1) := by decide +kernel
theorem dL_rigs_421 : decode cL_rigs 421 = .ok (.invokestatic 105, 3) := by decide +kernel
theorem dL_rigs_424 : decode cL_rigs 424 = .ok (.iload 10, 2) := by decide +kernel
theorem dL_rigs_426 : decode cL_rigs 426 = .ok (.ifCond .eq 11, 3) := by decide +kernel
theorem dL_rigs_429 : decode cL_rigs 429 = .ok (.aload_n 3, 1) := by decide +kernel
theorem dL_rigs_430 : decode cL_rigs 430 = .ok (.iconst 3, 1) := by decide +kernel
theorem dL_rigs_431 : decode cL_rigs 431 = .ok (.iaload, 1) := by decide +kernel
theorem dL_rigs_432 : decode cL_rigs 432 = .ok (.iconst 1, 1) := by decide +kernel
theorem dL_rigs_433 : decode cL_rigs 433 = .ok (.isub, 1) := by decide +kernel
theorem dL_rigs_434 : decode cL_rigs 434 = .ok (.goto 5, 3) := by decide +kernel
theorem dL_rigs_437 : decode cL_rigs 437 = .ok (.bipush (-101), 2) := by decide +kernel
theorem dL_rigs_439 : decode cL_rigs 439 = .ok (.if_icmp .ne 7, 3) := by decide +kernel
theorem dL_rigs_442 : decode cL_rigs 442 = .ok (.iconst 1, 1) := by decide +kernel
theorem dL_rigs_443 : decode cL_rigs 443 = .ok (.goto 4, 3) := by decide +kernel
theorem dL_rigs_446 : decode cL_rigs 446 = .ok (.iconst 0, 1) := by decide +kernel
theorem dL_rigs_447 : decode cL_rigs 447 = .ok (.ireturn, 1) := by decide +kernel
theorem dL_rigs_448 : decode cL_rigs 448 = .ok (.iload_n 1, 1) := by decide +kernel
theorem dL_rigs_449 : decode cL_rigs 449 = .ok (.iconst 2, 1) := by decide +kernel
theorem dL_rigs_450 : decode cL_rigs 450 = .ok (.if_icmp .ne 178, 3) := by decide +kernel
theorem dL_rigs_453 : decode cL_rigs 453 = .ok (.iload_n 2, 1) := by decide +kernel
theorem dL_rigs_454 : decode cL_rigs 454 = .ok (.iconst 3, 1) := by decide +kernel
theorem dL_rigs_455 : decode cL_rigs 455 = .ok (.ishr, 1) := by decide +kernel
theorem dL_rigs_456 : decode cL_rigs 456 = .ok (.iconst 3, 1) := by decide +kernel
theorem dL_rigs_457 : decode cL_rigs 457 = .ok (.invokestatic 98, 3) := by decide +kernel
theorem dL_rigs_460 : decode cL_rigs 460 = .ok (.istore 8, 2) := by decide +kernel
theorem dL_rigs_462 : decode cL_rigs 462 = .ok (.iload_n 2, 1) := by decide +kernel
theorem dL_rigs_463 : decode cL_rigs 463 = .ok (.iconst 5, 1) := by decide +kernel
theorem dL_rigs_464 : decode cL_rigs 464 = .ok (.ishr, 1) := by decide +kernel
theorem dL_rigs_465 : decode cL_rigs 465 = .ok (.bipush 18, 2) := by decide +kernel
theorem dL_rigs_467 : decode cL_rigs 467 = .ok (.invokestatic 98, 3) := by decide +kernel
theorem dL_rigs_470 : decode cL_rigs 470 = .ok (.iload_n 2, 1) := by decide +kernel
theorem dL_rigs_471 : decode cL_rigs 471 = .ok (.bipush 9, 2) := by decide +kernel
theorem dL_rigs_473 : decode cL_rigs 473 = .ok (.ishr, 1) := by decide +kernel
theorem dL_rigs_474 : decode cL_rigs 474 = .ok (.bipush 19, 2) := by decide +kernel
theorem dL_rigs_476 : decode cL_rigs 476 = .ok (.invokestatic 98, 3) := by decide +kernel
theorem dL_rigs_479 : decode cL_rigs 479 = .ok (.ifCond .ne 7, 3) := by decide +kernel
theorem dL_rigs_482 : decode cL_rigs 482 = .ok (.iconst 1, 1) := by decide +kernel
theorem dL_rigs_483 : decode cL_rigs 483 = .ok (.goto 4, 3) := by decide +kernel
theorem dL_rigs_486 : decode cL_rigs 486 = .ok (.iconst 0, 1) := by decide +kernel
theorem dL_rigs_487 : decode cL_rigs 487 = .ok (.isub, 1) := by decide +kernel
theorem dL_rigs_488 : decode cL_rigs 488 = .ok (.istore 9, 2) := by decide +kernel
theorem dL_rigs_490 : decode cL_rigs 490 = .ok (.iload 7, 2) := by decide +kernel
theorem dL_rigs_492 : decode cL_rigs 492 = .ok (.ifCond .eq 40, 3) := by decide +kernel
theorem dL_rigs_495 : decode cL_rigs 495 = .ok (.iload 8, 2) := by decide +kernel
theorem dL_rigs_497 : decode cL_rigs 497 = .ok (.aload_n 3, 1) := by decide +kernel
theorem dL_rigs_498 : decode cL_rigs 498 = .ok (.iconst 1, 1) := by decide +kernel
theorem dL_rigs_499 : decode cL_rigs 499 = .ok (.aload_n 3, 1) := by decide +kernel
theorem dL_rigs_500 : decode cL_rigs 500 = .ok (.iconst 0, 1) := by decide +kernel
theorem dL_rigs_501 : decode cL_rigs 501 = .ok (.iaload, 1) := by decide +kernel
theorem dL_rigs_502 : decode cL_rigs 502 = .ok (.iadd, 1) := by decide +kernel
theorem dL_rigs_503 : decode cL_rigs 503 = .ok (.iaload, 1) := by decide +kernel
theorem dL_rigs_504 : decode cL_rigs 504 = .ok (.if_icmp .ge 28, 3) := by decide +kernel
theorem dL_rigs_507 : decode cL_rigs 507 = .ok (.iload 9, 2) := by decide +kernel
theorem dL_rigs_509 : decode cL_rigs 509 = .ok (.ifCond .lt 23, 3) := by decide +kernel
theorem dL_rigs_512 : decode cL_rigs 512 = .ok (.iload 9, 2) := by decide +kernel
theorem dL_rigs_514 : decode cL_rigs 514 = .ok (.aload 4, 2) := by decide +kernel
theorem dL_rigs_516 : decode cL_rigs 516 = .ok (.iconst 2, 1) := by decide +kernel
theorem dL_rigs_517 : decode cL_rigs 517 = .ok (.aload_n 3, 1) := by decide +kernel
theorem dL_rigs_518 : decode cL_rigs 518 = .ok (.iconst 0, 1) := by decide +kernel
theorem dL_rigs_519 : decode cL_rigs 519 = .ok (.iaload, 1) := by decide +kernel
theorem dL_rigs_520 : decode cL_rigs 520 = .ok (.imul, 1) := by decide +kernel
theorem dL_rigs_521 : decode cL_rigs 521 = .ok (.iload 8, 2) := by decide +kernel
theorem dL_rigs_523 : decode cL_rigs 523 = .ok (.iadd, 1) := by decide +kernel
theorem dL_rigs_524 : decode cL_rigs 524 = .ok (.iaload, 1) := by decide +kernel
theorem dL_rigs_525 : decode cL_rigs 525 = .ok (.if_icmp .gt 7, 3) := by decide +kernel
theorem dL_rigs_528 : decode cL_rigs 528 = .ok (.iconst 1, 1) := by decide +kernel
theorem dL_rigs_529 : decode cL_rigs 529 = .ok (.goto 4, 3) := by decide +kernel
theorem dL_rigs_532 : decode cL_rigs 532 = .ok (.iconst 0, 1) := by decide +kernel
theorem dL_rigs_533 : decode cL_rigs 533 = .ok (.istore 7, 2) := by decide +kernel
theorem dL_rigs_535 : decode cL_rigs 535 = .ok (.iload 7, 2) := by decide +kernel
theorem dL_rigs_537 : decode cL_rigs 537 = .ok (.ifCond .ne 8, 3) := by decide +kernel
theorem dL_rigs_540 : decode cL_rigs 540 = .ok (.bipush (-101), 2) := by decide +kernel
theorem dL_rigs_542 : decode cL_rigs 542 = .ok (.goto 26, 3) := by decide +kernel
theorem dL_rigs_545 : decode cL_rigs 545 = .ok (.aload_n 3, 1) := by decide +kernel
theorem dL_rigs_546 : decode cL_rigs 546 = .ok (.aload 4, 2) := by decide +kernel
theorem dL_rigs_548 : decode cL_rigs 548 = .ok (.aload 5, 2) := by decide +kernel
theorem dL_rigs_550 : decode cL_rigs 550 = .ok (.iload 6, 2) := by decide +kernel
theorem dL_rigs_552 : decode cL_rigs 552 = .ok (.iload 8, 2) := by decide +kernel
theorem dL_rigs_554 : decode cL_rigs 554 = .ok (.iload 9, 2) := by decide +kernel
theorem dL_rigs_556 : decode cL_rigs 556 = .ok (.invokestatic 108, 3) := by decide +kernel
theorem dL_rigs_559 : decode cL_rigs 559 = .ok (.ifCond .ne 8, 3) := by decide +kernel
theorem dL_rigs_562 : decode cL_rigs 562 = .ok (.bipush (-103), 2) := by decide +kernel
theorem dL_rigs_564 : decode cL_rigs 564 = .ok (.goto 4, 3) := by decide +kernel
theorem dL_rigs_567 : decode cL_rigs 567 = .ok (.iconst 0, 1) := by decide +kernel
theorem dL_rigs_568 : decode cL_rigs 568 = .ok (.istore 10, 2) := by decide +kernel
theorem dL_rigs_570 : decode cL_rigs 570 = .ok (.iload 10, 2) := by decide +kernel
theorem dL_rigs_572 : decode cL_rigs 572 = .ok (.ifCond .ne 34, 3) := by decide +kernel
theorem dL_rigs_575 : decode cL_rigs 575 = .ok (.aload 5, 2) := by decide +kernel
theorem dL_rigs_577 : decode cL_rigs 577 = .ok (.bipush 10, 2) := by decide +kernel
theorem dL_rigs_579 : decode cL_rigs 579 = .ok (.iload 6, 2) := by decide +kernel
theorem dL_rigs_581 : decode cL_rigs 581 = .ok (.iadd, 1) := by decide +kernel
theorem dL_rigs_582 : decode cL_rigs 582 = .ok (.iload 8, 2) := by decide +kernel
theorem dL_rigs_584 : decode cL_rigs 584 = .ok (.iastore, 1) := by decide +kernel
theorem dL_rigs_585 : decode cL_rigs 585 = .ok (.aload 5, 2) := by decide +kernel
theorem dL_rigs_587 : decode cL_rigs 587 = .ok (.bipush 15, 2) := by decide +kernel
theorem dL_rigs_589 : decode cL_rigs 589 = .ok (.iload 6, 2) := by decide +kernel
theorem dL_rigs_591 : decode cL_rigs 591 = .ok (.iadd, 1) := by decide +kernel
theorem dL_rigs_592 : decode cL_rigs 592 = .ok (.iload 9, 2) := by decide +kernel
theorem dL_rigs_594 : decode cL_rigs 594 = .ok (.iastore, 1) := by decide +kernel
theorem dL_rigs_595 : decode cL_rigs 595 = .ok (.aload_n 3, 1) := by decide +kernel
theorem dL_rigs_596 : decode cL_rigs 596 = .ok (.aload 5, 2) := by decide +kernel
theorem dL_rigs_598 : decode cL_rigs 598 = .ok (.iload 8, 2) := by decide +kernel
theorem dL_rigs_600 : decode cL_rigs 600 = .ok (.iconst (-1), 1) := by decide +kernel
theorem dL_rigs_601 : decode cL_rigs 601 = .ok (.invokestatic 15, 3) := by decide +kernel
theorem dL_rigs_604 : decode cL_rigs 604 = .ok (.istore 10, 2) := by decide +kernel
theorem dL_rigs_606 : decode cL_rigs 606 = .ok (.aload_n 0, 1) := by decide +kernel
theorem dL_rigs_607 : decode cL_rigs 607 = .ok (.iconst 1, 1) := by decide +kernel
theorem dL_rigs_608 : decode cL_rigs 608 = .ok (.iload 6, 2) := by decide +kernel
theorem dL_rigs_610 : decode cL_rigs 610 = .ok (.iload 8, 2) := by decide +kernel
theorem dL_rigs_612 : decode cL_rigs 612 = .ok (.iload 9, 2) := by decide +kernel
theorem dL_rigs_614 : decode cL_rigs 614 = .ok (.invokestatic 101, 3) := by decide +kernel
theorem dL_rigs_617 : decode cL_rigs 617 = .ok (.iload 10, 2) := by decide +kernel
theorem dL_rigs_619 : decode cL_rigs 619 = .ok (.if_icmp .ne 7, 3) := by decide +kernel
theorem dL_rigs_622 : decode cL_rigs 622 = .ok (.iconst 1, 1) := by decide +kernel
theorem dL_rigs_623 : decode cL_rigs 623 = .ok (.goto 4, 3) := by decide +kernel
theorem dL_rigs_626 : decode cL_rigs 626 = .ok (.iconst 0, 1) := by decide +kernel
theorem dL_rigs_627 : decode cL_rigs 627 = .ok (.ireturn, 1) := by decide +kernel
theorem dL_rigs_628 : decode cL_rigs 628 = .ok (.iload_n 1, 1) := by decide +kernel
theorem dL_rigs_629 : decode cL_rigs 629 = .ok (.iconst 3, 1) := by decide +kernel
theorem dL_rigs_630 : decode cL_rigs 630 = .ok (.if_icmp .ne 64, 3) := by decide +kernel
theorem dL_rigs_633 : decode cL_rigs 633 = .ok (.iload 7, 2) := by decide +kernel
theorem dL_rigs_635 : decode cL_rigs 635 = .ok (.ifCond .ne 8, 3) := by decide +kernel
theorem dL_rigs_638 : decode cL_rigs 638 = .ok (.bipush (-101), 2) := by decide +kernel
theorem dL_rigs_640 : decode cL_rigs 640 = .ok (.goto 19, 3) := by decide +kernel
theorem dL_rigs_643 : decode cL_rigs 643 = .ok (.aload 5, 2) := by decide +kernel
theorem dL_rigs_645 : decode cL_rigs 645 = .ok (.bipush 10, 2) := by decide +kernel
theorem dL_rigs_647 : decode cL_rigs 647 = .ok (.iload 6, 2) := by decide +kernel
theorem dL_rigs_649 : decode cL_rigs 649 = .ok (.iadd, 1) := by decide +kernel
theorem dL_rigs_650 : decode cL_rigs 650 = .ok (.iaload, 1) := by decide +kernel
theorem dL_rigs_651 : decode cL_rigs 651 = .ok (.ifCond .lt 7, 3) := by decide +kernel
theorem dL_rigs_654 : decode cL_rigs 654 = .ok (.iconst 1, 1) := by decide +kernel
theorem dL_rigs_655 : decode cL_rigs 655 = .ok (.goto 4, 3) := by decide +kernel
theorem dL_rigs_658 : decode cL_rigs 658 = .ok (.iconst 0, 1) := by decide +kernel
theorem dL_rigs_659 : decode cL_rigs 659 = .ok (.istore 8, 2) := by decide +kernel
theorem dL_rigs_661 : decode cL_rigs 661 = .ok (.iload 7, 2) := by decide +kernel
theorem dL_rigs_663 : decode cL_rigs 663 = .ok (.ifCond .eq 12, 3) := by decide +kernel
theorem dL_rigs_666 : decode cL_rigs 666 = .ok (.aload 5, 2) := by decide +kernel
theorem dL_rigs_668 : decode cL_rigs 668 = .ok (.bipush 10, 2) := by decide +kernel
theorem dL_rigs_670 : decode cL_rigs 670 = .ok (.iload 6, 2) := by decide +kernel
theorem dL_rigs_672 : decode cL_rigs 672 = .ok (.iadd, 1) := by decide +kernel
theorem dL_rigs_673 : decode cL_rigs 673 = .ok (.iconst (-1), 1) := by decide +kernel
theorem dL_rigs_674 : decode cL_rigs 674 = .ok (.iastore, 1) := by decide +kernel
theorem dL_rigs_675 : decode cL_rigs 675 = .ok (.aload_n 0, 1) := by decide +kernel
theorem dL_rigs_676 : decode cL_rigs 676 = .ok (.iconst 0, 1) := by decide +kernel
theorem dL_rigs_677 : decode cL_rigs 677 = .ok (.iload 6, 2) := by decide +kernel
theorem dL_rigs_679 : decode cL_rigs 679 = .ok (.iconst 0, 1) := by decide +kernel
theorem dL_rigs_680 : decode cL_rigs 680 = .ok (.invokestatic 112, 3) := by decide +kernel
theorem dL_rigs_683 : decode cL_rigs 683 = .ok (.iload 8, 2) := by decide +kernel
theorem dL_rigs_685 : decode cL_rigs 685 = .ok (.if_icmp .ne 7, 3) := by decide +kernel
theorem dL_rigs_688 : decode cL_rigs 688 = .ok (.iconst 1, 1) := by decide +kernel
theorem dL_rigs_689 : decode cL_rigs 689 = .ok (.goto 4, 3) := by decide +kernel
theorem dL_rigs_692 : decode cL_rigs 692 = .ok (.iconst 0, 1) := by decide +kernel
theorem dL_rigs_693 : decode cL_rigs 693 = .ok (.ireturn, 1) := by decide +kernel
theorem dL_rigs_694 : decode cL_rigs 694 = .ok (.iload_n 1, 1) := by decide +kernel
theorem dL_rigs_695 : decode cL_rigs 695 = .ok (.iconst 4, 1) := by decide +kernel
theorem dL_rigs_696 : decode cL_rigs 696 = .ok (.if_icmp .ne 271, 3) := by decide +kernel
theorem dL_rigs_699 : decode cL_rigs 699 = .ok (.iconst 5, 1) := by decide +kernel
theorem dL_rigs_700 : decode cL_rigs 700 = .ok (.newarray .int, 2) := by decide +kernel
theorem dL_rigs_702 : decode cL_rigs 702 = .ok (.astore 8, 2) := by decide +kernel
theorem dL_rigs_704 : decode cL_rigs 704 = .ok (.iconst 0, 1) := by decide +kernel
theorem dL_rigs_705 : decode cL_rigs 705 = .ok (.istore 9, 2) := by decide +kernel
theorem dL_rigs_707 : decode cL_rigs 707 = .ok (.aload_n 3, 1) := by decide +kernel
theorem dL_rigs_708 : decode cL_rigs 708 = .ok (.iconst 0, 1) := by decide +kernel
theorem dL_rigs_709 : decode cL_rigs 709 = .ok (.iconst 1, 1) := by decide +kernel
theorem dL_rigs_710 : decode cL_rigs 710 = .ok (.aload_n 3, 1) := by decide +kernel
theorem dL_rigs_711 : decode cL_rigs 711 = .ok (.iconst 0, 1) := by decide +kernel
theorem dL_rigs_712 : decode cL_rigs 712 = .ok (.iaload, 1) := by decide +kernel
theorem dL_rigs_713 : decode cL_rigs 713 = .ok (.isub, 1) := by decide +kernel
theorem dL_rigs_714 : decode cL_rigs 714 = .ok (.iastore, 1) := by decide +kernel
theorem dL_rigs_715 : decode cL_rigs 715 = .ok (.iconst 0, 1) := by decide +kernel
theorem dL_rigs_716 : decode cL_rigs 716 = .ok (.istore 10, 2) := by decide +kernel
theorem dL_rigs_718 : decode cL_rigs 718 = .ok (.iload 10, 2) := by decide +kernel
theorem dL_rigs_720 : decode cL_rigs 720 = .ok (.aload_n 3, 1) := by decide +kernel
theorem dL_rigs_721 : decode cL_rigs 721 = .ok (.iconst 3, 1) := by decide +kernel
theorem dL_rigs_722 : decode cL_rigs 722 = .ok (.iaload, 1) := by decide +kernel
theorem dL_rigs_723 : decode cL_rigs 723 = .ok (.if_icmp .ge 31, 3) := by decide +kernel
theorem dL_rigs_726 : decode cL_rigs 726 = .ok (.aload 8, 2) := by decide +kernel
theorem dL_rigs_728 : decode cL_rigs 728 = .ok (.iload 10, 2) := by decide +kernel
theorem dL_rigs_730 : decode cL_rigs 730 = .ok (.aload 5, 2) := by decide +kernel
theorem dL_rigs_732 : decode cL_rigs 732 = .ok (.bipush 10, 2) := by decide +kernel
theorem dL_rigs_734 : decode cL_rigs 734 = .ok (.iload 10, 2) := by decide +kernel
theorem dL_rigs_736 : decode cL_rigs 736 = .ok (.iadd, 1) := by decide +kernel
theorem dL_rigs_737 : decode cL_rigs 737 = .ok (.iaload, 1) := by decide +kernel
theorem dL_rigs_738 : decode cL_rigs 738 = .ok (.iastore, 1) := by decide +kernel
theorem dL_rigs_739 : decode cL_rigs 739 = .ok (.aload 5, 2) := by decide +kernel
theorem dL_rigs_741 : decode cL_rigs 741 = .ok (.bipush 10, 2) := by decide +kernel
theorem dL_rigs_743 : decode cL_rigs 743 = .ok (.iload 10, 2) := by decide +kernel
theorem dL_rigs_745 : decode cL_rigs 745 = .ok (.iadd, 1) := by decide +kernel
theorem dL_rigs_746 : decode cL_rigs 746 = .ok (.iconst (-1), 1) := by decide +kernel
theorem dL_rigs_747 : decode cL_rigs 747 = .ok (.iastore, 1) := by decide +kernel
theorem dL_rigs_748 : decode cL_rigs 748 = .ok (.iinc 10 1, 3) := by decide +kernel
theorem dL_rigs_751 : decode cL_rigs 751 = .ok (.goto (-33), 3) := by decide +kernel
theorem dL_rigs_754 : decode cL_rigs 754 = .ok (.iconst 0, 1) := by decide +kernel
theorem dL_rigs_755 : decode cL_rigs 755 = .ok (.istore 10, 2) := by decide +kernel
theorem dL_rigs_757 : decode cL_rigs 757 = .ok (.iload 10, 2) := by decide +kernel
theorem dL_rigs_759 : decode cL_rigs 759 = .ok (.aload_n 3, 1) := by decide +kernel
theorem dL_rigs_760 : decode cL_rigs 760 = .ok (.iconst 3, 1) := by decide +kernel
theorem dL_rigs_761 : decode cL_rigs 761 = .ok (.iaload, 1) := by decide +kernel
theorem dL_rigs_762 : decode cL_rigs 762 = .ok (.if_icmp .ge 190, 3) := by decide +kernel
theorem dL_rigs_765 : decode cL_rigs 765 = .ok (.aload 5, 2) := by decide +kernel
theorem dL_rigs_767 : decode cL_rigs 767 = .ok (.bipush 15, 2) := by decide +kernel
theorem dL_rigs_769 : decode cL_rigs 769 = .ok (.iload 10, 2) := by decide +kernel
theorem dL_rigs_771 : decode cL_rigs 771 = .ok (.iadd, 1) := by decide +kernel
theorem dL_rigs_772 : decode cL_rigs 772 = .ok (.iaload, 1) := by decide +kernel
theorem dL_rigs_773 : decode cL_rigs 773 = .ok (.istore 11, 2) := by decide +kernel
theorem dL_rigs_775 : decode cL_rigs 775 = .ok (.iconst 0, 1) := by decide +kernel
theorem dL_rigs_776 : decode cL_rigs 776 = .ok (.istore 12, 2) := by decide +kernel
theorem dL_rigs_778 : decode cL_rigs 778 = .ok (.iload 12, 2) := by decide +kernel
theorem dL_rigs_780 : decode cL_rigs 780 = .ok (.bipush 101, 2) := by decide +kernel
theorem dL_rigs_782 : decode cL_rigs 782 = .ok (.if_icmp .ge 135, 3) := by decide +kernel
theorem dL_rigs_785 : decode cL_rigs 785 = .ok (.aload 8, 2) := by decide +kernel
theorem dL_rigs_787 : decode cL_rigs 787 = .ok (.iload 10, 2) := by decide +kernel
theorem dL_rigs_789 : decode cL_rigs 789 = .ok (.iaload, 1) := by decide +kernel
theorem dL_rigs_790 : decode cL_rigs 790 = .ok (.ifCond .lt 127, 3) := by decide +kernel
theorem dL_rigs_793 : decode cL_rigs 793 = .ok (.aload 5, 2) := by decide +kernel
theorem dL_rigs_795 : decode cL_rigs 795 = .ok (.bipush 10, 2) := by decide +kernel
theorem dL_rigs_797 : decode cL_rigs 797 = .ok (.iload 10, 2) := by decide +kernel
theorem dL_rigs_799 : decode cL_rigs 799 = .ok (.iadd, 1) := by decide +kernel
theorem dL_rigs_800 : decode cL_rigs 800 = .ok (.iaload, 1) := by decide +kernel
theorem dL_rigs_801 : decode cL_rigs 801 = .ok (.ifCond .ge 116, 3) := by decide +kernel
theorem dL_rigs_804 : decode cL_rigs 804 = .ok (.aload_n 3, 1) := by decide +kernel
theorem dL_rigs_805 : decode cL_rigs 805 = .ok (.aload 4, 2) := by decide +kernel
theorem dL_rigs_807 : decode cL_rigs 807 = .ok (.aload 5, 2) := by decide +kernel
theorem dL_rigs_809 : decode cL_rigs 809 = .ok (.iload 10, 2) := by decide +kernel
theorem dL_rigs_811 : decode cL_rigs 811 = .ok (.aload 8, 2) := by decide +kernel
theorem dL_rigs_813 : decode cL_rigs 813 = .ok (.iload 10, 2) := by decide +kernel
theorem dL_rigs_815 : decode cL_rigs 815 = .ok (.iaload, 1) := by decide +kernel
theorem dL_rigs_816 : decode cL_rigs 816 = .ok (.iload 11, 2) := by decide +kernel
theorem dL_rigs_818 : decode cL_rigs 818 = .ok (.iload 12, 2) := by decide +kernel
theorem dL_rigs_820 : decode cL_rigs 820 = .ok (.isub, 1) := by decide +kernel
theorem dL_rigs_821 : decode cL_rigs 821 = .ok (.invokestatic 108, 3) := by decide +kernel
theorem dL_rigs_824 : decode cL_rigs 824 = .ok (.ifCond .eq 11, 3) := by decide +kernel
theorem dL_rigs_827 : decode cL_rigs 827 = .ok (.iload 11, 2) := by decide +kernel
theorem dL_rigs_829 : decode cL_rigs 829 = .ok (.iload 12, 2) := by decide +kernel
theorem dL_rigs_831 : decode cL_rigs 831 = .ok (.isub, 1) := by decide +kernel
theorem dL_rigs_832 : decode cL_rigs 832 = .ok (.goto 35, 3) := by decide +kernel
theorem dL_rigs_835 : decode cL_rigs 835 = .ok (.aload_n 3, 1) := by decide +kernel
theorem dL_rigs_836 : decode cL_rigs 836 = .ok (.aload 4, 2) := by decide +kernel
theorem dL_rigs_838 : decode cL_rigs 838 = .ok (.aload 5, 2) := by decide +kernel
theorem dL_rigs_840 : decode cL_rigs 840 = .ok (.iload 10, 2) := by decide +kernel
theorem dL_rigs_842 : decode cL_rigs 842 = .ok (.aload 8, 2) := by decide +kernel
theorem dL_rigs_844 : decode cL_rigs 844 = .ok (.iload 10, 2) := by decide +kernel
theorem dL_rigs_846 : decode cL_rigs 846 = .ok (.iaload, 1) := by decide +kernel
theorem dL_rigs_847 : decode cL_rigs 847 = .ok (.iload 11, 2) := by decide +kernel
theorem dL_rigs_849 : decode cL_rigs 849 = .ok (.iload 12, 2) := by decide +kernel
theorem dL_rigs_851 : decode cL_rigs 851 = .ok (.iadd, 1) := by decide +kernel
theorem dL_rigs_852 : decode cL_rigs 852 = .ok (.invokestatic 108, 3) := by decide +kernel
theorem dL_rigs_855 : decode cL_rigs 855 = .ok (.ifCond .eq 11, 3) := by decide +kernel
theorem dL_rigs_858 : decode cL_rigs 858 = .ok (.iload 11, 2) := by decide +kernel
theorem dL_rigs_860 : decode cL_rigs 860 = .ok (.iload 12, 2) := by decide +kernel
theorem dL_rigs_862 : decode cL_rigs 862 = .ok (.iadd, 1) := by decide +kernel
theorem dL_rigs_863 : decode cL_rigs 863 = .ok (.goto 4, 3) := by decide +kernel
theorem dL_rigs_866 : decode cL_rigs 866 = .ok (.iconst (-1), 1) := by decide +kernel
theorem dL_rigs_867 : decode cL_rigs 867 = .ok (.istore 13, 2) := by decide +kernel
theorem dL_rigs_869 : decode cL_rigs 869 = .ok (.aload 5, 2) := by decide +kernel
theorem dL_rigs_871 : decode cL_rigs 871 = .ok (.bipush 10, 2) := by decide +kernel
theorem dL_rigs_873 : decode cL_rigs 873 = .ok (.iload 10, 2) := by decide +kernel
theorem dL_rigs_875 : decode cL_rigs 875 = .ok (.iadd, 1) := by decide +kernel
theorem dL_rigs_876 : decode cL_rigs 876 = .ok (.iload 13, 2) := by decide +kernel
theorem dL_rigs_878 : decode cL_rigs 878 = .ok (.ifCond .lt 11, 3) := by decide +kernel
theorem dL_rigs_881 : decode cL_rigs 881 = .ok (.aload 8, 2) := by decide +kernel
theorem dL_rigs_883 : decode cL_rigs 883 = .ok (.iload 10, 2) := by decide +kernel
theorem dL_rigs_885 : decode cL_rigs 885 = .ok (.iaload, 1) := by decide +kernel
theorem dL_rigs_886 : decode cL_rigs 886 = .ok (.goto 4, 3) := by decide +kernel
theorem dL_rigs_889 : decode cL_rigs 889 = .ok (.iconst (-1), 1) := by decide +kernel
theorem dL_rigs_890 : decode cL_rigs 890 = .ok (.iastore, 1) := by decide +kernel
theorem dL_rigs_891 : decode cL_rigs 891 = .ok (.aload 5, 2) := by decide +kernel
theorem dL_rigs_893 : decode cL_rigs 893 = .ok (.bipush 15, 2) := by decide +kernel
theorem dL_rigs_895 : decode cL_rigs 895 = .ok (.iload 10, 2) := by decide +kernel
theorem dL_rigs_897 : decode cL_rigs 897 = .ok (.iadd, 1) := by decide +kernel
theorem dL_rigs_898 : decode cL_rigs 898 = .ok (.iload 13, 2) := by decide +kernel
theorem dL_rigs_900 : decode cL_rigs 900 = .ok (.ifCond .lt 8, 3) := by decide +kernel
theorem dL_rigs_903 : decode cL_rigs 903 = .ok (.iload 13, 2) := by decide +kernel
theorem dL_rigs_905 : decode cL_rigs 905 = .ok (.goto 5, 3) := by decide +kernel
theorem dL_rigs_908 : decode cL_rigs 908 = .ok (.iload 11, 2) := by decide +kernel
theorem dL_rigs_910 : decode cL_rigs 910 = .ok (.iastore, 1) := by decide +kernel
theorem dL_rigs_911 : decode cL_rigs 911 = .ok (.iinc 12 1, 3) := by decide +kernel
theorem dL_rigs_914 : decode cL_rigs 914 = .ok (.goto (-136), 3) := by decide +kernel
theorem dL_rigs_917 : decode cL_rigs 917 = .ok (.iload 9, 2) := by decide +kernel
theorem dL_rigs_919 : decode cL_rigs 919 = .ok (.aload 8, 2) := by decide +kernel
theorem dL_rigs_921 : decode cL_rigs 921 = .ok (.iload 10, 2) := by decide +kernel
theorem dL_rigs_923 : decode cL_rigs 923 = .ok (.iaload, 1) := by decide +kernel
theorem dL_rigs_924 : decode cL_rigs 924 = .ok (.ifCond .lt 18, 3) := by decide +kernel
theorem dL_rigs_927 : decode cL_rigs 927 = .ok (.aload 5, 2) := by decide +kernel
theorem dL_rigs_929 : decode cL_rigs 929 = .ok (.bipush 10, 2) := by decide +kernel
theorem dL_rigs_931 : decode cL_rigs 931 = .ok (.iload 10, 2) := by decide +kernel
theorem dL_rigs_933 : decode cL_rigs 933 = .ok (.iadd, 1) := by decide +kernel
theorem dL_rigs_934 : decode cL_rigs 934 = .ok (.iaload, 1) := by decide +kernel
theorem dL_rigs_935 : decode cL_rigs 935 = .ok (.ifCond .ge 7, 3) := by decide +kernel
theorem dL_rigs_938 : decode cL_rigs 938 = .ok (.iconst 1, 1) := by decide +kernel
theorem dL_rigs_939 : decode cL_rigs 939 = .ok (.goto 4, 3) := by decide +kernel
theorem dL_rigs_942 : decode cL_rigs 942 = .ok (.iconst 0, 1) := by decide +kernel
theorem dL_rigs_943 : decode cL_rigs 943 = .ok (.iadd, 1) := by decide +kernel
theorem dL_rigs_944 : decode cL_rigs 944 = .ok (.istore 9, 2) := by decide +kernel
theorem dL_rigs_946 : decode cL_rigs 946 = .ok (.iinc 10 1, 3) := by decide +kernel
theorem dL_rigs_949 : decode cL_rigs 949 = .ok (.goto (-192), 3) := by decide +kernel
theorem dL_rigs_952 : decode cL_rigs 952 = .ok (.aload_n 0, 1) := by decide +kernel
theorem dL_rigs_953 : decode cL_rigs 953 = .ok (.invokevirtual 116, 3) := by decide +kernel
theorem dL_rigs_956 : decode cL_rigs 956 = .ok (.iload 9, 2) := by decide +kernel
theorem dL_rigs_958 : decode cL_rigs 958 = .ok (.if_icmp .ne 7, 3) := by decide +kernel
theorem dL_rigs_961 : decode cL_rigs 961 = .ok (.iconst 1, 1) := by decide +kernel
theorem dL_rigs_962 : decode cL_rigs 962 = .ok (.goto 4, 3) := by decide +kernel
theorem dL_rigs_965 : decode cL_rigs 965 = .ok (.iconst 0, 1) := by decide +kernel
theorem dL_rigs_966 : decode cL_rigs 966 = .ok (.ireturn, 1) := by decide +kernel
theorem dL_rigs_967 : decode cL_rigs 967 = .ok (.iload_n 1, 1) := by decide +kernel
theorem dL_rigs_968 : decode cL_rigs 968 = .ok (.iconst 5, 1) := by decide +kernel
theorem dL_rigs_969 : decode cL_rigs 969 = .ok (.if_icmp .ne 221, 3) := by decide +kernel
theorem dL_rigs_972 : decode cL_rigs 972 = .ok (.iload_n 2, 1) := by decide +kernel
theorem dL_rigs_973 : decode cL_rigs 973 = .ok (.iconst 3, 1) := by decide +kernel
theorem dL_rigs_974 : decode cL_rigs 974 = .ok (.ishr, 1) := by decide +kernel
theorem dL_rigs_975 : decode cL_rigs 975 = .ok (.bipush 20, 2) := by decide +kernel
theorem dL_rigs_977 : decode cL_rigs 977 = .ok (.invokestatic 98, 3) := by decide +kernel
theorem dL_rigs_980 : decode cL_rigs 980 = .ok (.ifCond .ne 8, 3) := by decide +kernel
theorem dL_rigs_983 : decode cL_rigs 983 = .ok (.bipush 100, 2) := by decide +kernel
theorem dL_rigs_985 : decode cL_rigs 985 = .ok (.goto 25, 3) := by decide +kernel
theorem dL_rigs_988 : decode cL_rigs 988 = .ok (.iload_n 2, 1) := by decide +kernel
theorem dL_rigs_989 : decode cL_rigs 989 = .ok (.iconst 3, 1) := by decide +kernel
theorem dL_rigs_990 : decode cL_rigs 990 = .ok (.ishr, 1) := by decide +kernel
theorem dL_rigs_991 : decode cL_rigs 991 = .ok (.iconst 5, 1) := by decide +kernel
theorem dL_rigs_992 : decode cL_rigs 992 = .ok (.invokestatic 98, 3) := by decide +kernel
theorem dL_rigs_995 : decode cL_rigs 995 = .ok (.ifCond .ne 7, 3) := by decide +kernel
theorem dL_rigs_998 : decode cL_rigs 998 = .ok (.iconst (-1), 1) := by decide +kernel
theorem dL_rigs_999 : decode cL_rigs 999 = .ok (.goto 11, 3) := by decide +kernel
theorem dL_rigs_1002 : decode cL_rigs 1002 = .ok (.iload_n 2, 1) := by decide +kernel
theorem dL_rigs_1003 : decode cL_rigs 1003 = .ok (.iconst 5, 1) := by decide +kernel
theorem dL_rigs_1004 : decode cL_rigs 1004 = .ok (.ishr, 1) := by decide +kernel
theorem dL_rigs_1005 : decode cL_rigs 1005 = .ok (.bipush 30, 2) := by decide +kernel
theorem dL_rigs_1007 : decode cL_rigs 1007 = .ok (.invokestatic 98, 3) := by decide +kernel
theorem dL_rigs_1010 : decode cL_rigs 1010 = .ok (.istore 8, 2) := by decide +kernel
theorem dL_rigs_1012 : decode cL_rigs 1012 = .ok (.iload 7, 2) := by decide +kernel
theorem dL_rigs_1014 : decode cL_rigs 1014 = .ok (.ifCond .ne 8, 3) := by decide +kernel
theorem dL_rigs_1017 : decode cL_rigs 1017 = .ok (.bipush (-101), 2) := by decide +kernel
theorem dL_rigs_1019 : decode cL_rigs 1019 = .ok (.goto 25, 3) := by decide +kernel
theorem dL_rigs_1022 : decode cL_rigs 1022 = .ok (.iload 8, 2) := by decide +kernel
theorem dL_rigs_1024 : decode cL_rigs 1024 = .ok (.bipush 100, 2) := by decide +kernel
theorem dL_rigs_1026 : decode cL_rigs 1026 = .ok (.aload 5, 2) := by decide +kernel
theorem dL_rigs_1028 : decode cL_rigs 1028 = .ok (.iload 6, 2) := by decide +kernel
theorem dL_rigs_1030 : decode cL_rigs 1030 = .ok (.iaload, 1) := by decide +kernel
theorem dL_rigs_1031 : decode cL_rigs 1031 = .ok (.invokestatic 119, 3) := by decide +kernel
theorem dL_rigs_1034 : decode cL_rigs 1034 = .ok (.isub, 1) := by decide +kernel
theorem dL_rigs_1035 : decode cL_rigs 1035 = .ok (.if_icmp .le 8, 3) := by decide +kernel
theorem dL_rigs_1038 : decode cL_rigs 1038 = .ok (.bipush (-102), 2) := by decide +kernel
theorem dL_rigs_1040 : decode cL_rigs 1040 = .ok (.goto 4, 3) := by decide +kernel
theorem dL_rigs_1043 : decode cL_rigs 1043 = .ok (.iconst 0, 1) := by decide +kernel
theorem dL_rigs_1044 : decode cL_rigs 1044 = .ok (.istore 9, 2) := by decide +kernel
theorem dL_rigs_1046 : decode cL_rigs 1046 = .ok (.iload 9, 2) := by decide +kernel
theorem dL_rigs_1048 : decode cL_rigs 1048 = .ok (.ifCond .ne 121, 3) := by decide +kernel
theorem dL_rigs_1051 : decode cL_rigs 1051 = .ok (.aload 5, 2) := by decide +kernel
theorem dL_rigs_1053 : decode cL_rigs 1053 = .ok (.bipush 20, 2) := by decide +kernel
theorem dL_rigs_1055 : decode cL_rigs 1055 = .ok (.iload 6, 2) := by decide +kernel
theorem dL_rigs_1057 : decode cL_rigs 1057 = .ok (.iadd, 1) := by decide +kernel
theorem dL_rigs_1058 : decode cL_rigs 1058 = .ok (.iload 8, 2) := by decide +kernel
theorem dL_rigs_1060 : decode cL_rigs 1060 = .ok (.iastore, 1) := by decide +kernel
theorem dL_rigs_1061 : decode cL_rigs 1061 = .ok (.iconst 0, 1) := by decide +kernel
theorem dL_rigs_1062 : decode cL_rigs 1062 = .ok (.istore 10, 2) := by decide +kernel
theorem dL_rigs_1064 : decode cL_rigs 1064 = .ok (.iload 10, 2) := by decide +kernel
theorem dL_rigs_1066 : decode cL_rigs 1066 = .ok (.bipush 100, 2) := by decide +kernel
theorem dL_rigs_1068 : decode cL_rigs 1068 = .ok (.if_icmp .ge 101, 3) := by decide +kernel
theorem dL_rigs_1071 : decode cL_rigs 1071 = .ok (.iconst 0, 1) := by decide +kernel
theorem dL_rigs_1072 : decode cL_rigs 1072 = .ok (.istore 11, 2) := by decide +kernel
theorem dL_rigs_1074 : decode cL_rigs 1074 = .ok (.iconst 0, 1) := by decide +kernel
theorem dL_rigs_1075 : decode cL_rigs 1075 = .ok (.istore 12, 2) := by decide +kernel
theorem dL_rigs_1077 : decode cL_rigs 1077 = .ok (.iload 12, 2) := by decide +kernel
theorem dL_rigs_1079 : decode cL_rigs 1079 = .ok (.aload_n 3, 1) := by decide +kernel
theorem dL_rigs_1080 : decode cL_rigs 1080 = .ok (.iconst 3, 1) := by decide +kernel
theorem dL_rigs_1081 : decode cL_rigs 1081 = .ok (.iaload, 1) := by decide +kernel
theorem dL_rigs_1082 : decode cL_rigs 1082 = .ok (.if_icmp .ge 65, 3) := by decide +kernel
theorem dL_rigs_1085 : decode cL_rigs 1085 = .ok (.iload 11, 2) := by decide +kernel
theorem dL_rigs_1087 : decode cL_rigs 1087 = .ok (.aload 5, 2) := by decide +kernel
theorem dL_rigs_1089 : decode cL_rigs 1089 = .ok (.bipush 20, 2) := by decide +kernel
theorem dL_rigs_1091 : decode cL_rigs 1091 = .ok (.iload 12, 2) := by decide +kernel
theorem dL_rigs_1093 : decode cL_rigs 1093 = .ok (.iadd, 1) := by decide +kernel
theorem dL_rigs_1094 : decode cL_rigs 1094 = .ok (.iaload, 1) := by decide +kernel
theorem dL_rigs_1095 : decode cL_rigs 1095 = .ok (.ifCond .lt 42, 3) := by decide +kernel
theorem dL_rigs_1098 : decode cL_rigs 1098 = .ok (.iload 10, 2) := by decide +kernel
theorem dL_rigs_1100 : decode cL_rigs 1100 = .ok (.aload 5, 2) := by decide +kernel
theorem dL_rigs_1102 : decode cL_rigs 1102 = .ok (.bipush 20, 2) := by decide +kernel
theorem dL_rigs_1104 : decode cL_rigs 1104 = .ok (.iload 12, 2) := by decide +kernel
theorem dL_rigs_1106 : decode cL_rigs 1106 = .ok (.iadd, 1) := by decide +kernel
theorem dL_rigs_1107 : decode cL_rigs 1107 = .ok (.iaload, 1) := by decide +kernel
theorem dL_rigs_1108 : decode cL_rigs 1108 = .ok (.if_icmp .lt 29, 3) := by decide +kernel
theorem dL_rigs_1111 : decode cL_rigs 1111 = .ok (.iload 10, 2) := by decide +kernel
theorem dL_rigs_1113 : decode cL_rigs 1113 = .ok (.aload 5, 2) := by decide +kernel
theorem dL_rigs_1115 : decode cL_rigs 1115 = .ok (.bipush 20, 2) := by decide +kernel
theorem dL_rigs_1117 : decode cL_rigs 1117 = .ok (.iload 12, 2) := by decide +kernel
theorem dL_rigs_1119 : decode cL_rigs 1119 = .ok (.iadd, 1) := by decide +kernel
theorem dL_rigs_1120 : decode cL_rigs 1120 = .ok (.iaload, 1) := by decide +kernel
theorem dL_rigs_1121 : decode cL_rigs 1121 = .ok (.aload 5, 2) := by decide +kernel
theorem dL_rigs_1123 : decode cL_rigs 1123 = .ok (.iload 12, 2) := by decide +kernel
theorem dL_rigs_1125 : decode cL_rigs 1125 = .ok (.iaload, 1) := by decide +kernel
theorem dL_rigs_1126 : decode cL_rigs 1126 = .ok (.invokestatic 119, 3) := by decide +kernel
theorem dL_rigs_1129 : decode cL_rigs 1129 = .ok (.iadd, 1) := by decide +kernel
theorem dL_rigs_1130 : decode cL_rigs 1130 = .ok (.if_icmp .ge 7, 3) := by decide +kernel
theorem dL_rigs_1133 : decode cL_rigs 1133 = .ok (.iconst 1, 1) := by decide +kernel
theorem dL_rigs_1134 : decode cL_rigs 1134 = .ok (.goto 4, 3) := by decide +kernel
theorem dL_rigs_1137 : decode cL_rigs 1137 = .ok (.iconst 0, 1) := by decide +kernel
theorem dL_rigs_1138 : decode cL_rigs 1138 = .ok (.iadd, 1) := by decide +kernel
theorem dL_rigs_1139 : decode cL_rigs 1139 = .ok (.istore 11, 2) := by decide +kernel
theorem dL_rigs_1141 : decode cL_rigs 1141 = .ok (.iinc 12 1, 3) := by decide +kernel
theorem dL_rigs_1144 : decode cL_rigs 1144 = .ok (.goto (-67), 3) := by decide +kernel
theorem dL_rigs_1147 : decode cL_rigs 1147 = .ok (.iload 9, 2) := by decide +kernel
theorem dL_rigs_1149 : decode cL_rigs 1149 = .ok (.iload 11, 2) := by decide +kernel
theorem dL_rigs_1151 : decode cL_rigs 1151 = .ok (.iconst 1, 1) := by decide +kernel
theorem dL_rigs_1152 : decode cL_rigs 1152 = .ok (.if_icmp .le 7, 3) := by decide +kernel
theorem dL_rigs_1155 : decode cL_rigs 1155 = .ok (.iconst 1, 1) := by decide +kernel
theorem dL_rigs_1156 : decode cL_rigs 1156 = .ok (.goto 4, 3) := by decide +kernel
theorem dL_rigs_1159 : decode cL_rigs 1159 = .ok (.iconst 0, 1) := by decide +kernel
theorem dL_rigs_1160 : decode cL_rigs 1160 = .ok (.iadd, 1) := by decide +kernel
theorem dL_rigs_1161 : decode cL_rigs 1161 = .ok (.istore 9, 2) := by decide +kernel
theorem dL_rigs_1163 : decode cL_rigs 1163 = .ok (.iinc 10 1, 3) := by decide +kernel
theorem dL_rigs_1166 : decode cL_rigs 1166 = .ok (.goto (-102), 3) := by decide +kernel
theorem dL_rigs_1169 : decode cL_rigs 1169 = .ok (.aload_n 0, 1) := by decide +kernel
theorem dL_rigs_1170 : decode cL_rigs 1170 = .ok (.iconst 0, 1) := by decide +kernel
theorem dL_rigs_1171 : decode cL_rigs 1171 = .ok (.iload 6, 2) := by decide +kernel
theorem dL_rigs_1173 : decode cL_rigs 1173 = .ok (.iload 8, 2) := by decide +kernel
theorem dL_rigs_1175 : decode cL_rigs 1175 = .ok (.iconst 0, 1) := by decide +kernel
theorem dL_rigs_1176 : decode cL_rigs 1176 = .ok (.invokestatic 122, 3) := by decide +kernel
theorem dL_rigs_1179 : decode cL_rigs 1179 = .ok (.iload 9, 2) := by decide +kernel
theorem dL_rigs_1181 : decode cL_rigs 1181 = .ok (.if_icmp .ne 7, 3) := by decide +kernel
theorem dL_rigs_1184 : decode cL_rigs 1184 = .ok (.iconst 1, 1) := by decide +kernel
theorem dL_rigs_1185 : decode cL_rigs 1185 = .ok (.goto 4, 3) := by decide +kernel
theorem dL_rigs_1188 : decode cL_rigs 1188 = .ok (.iconst 0, 1) := by decide +kernel
theorem dL_rigs_1189 : decode cL_rigs 1189 = .ok (.ireturn, 1) := by decide +kernel
theorem dL_rigs_1190 : decode cL_rigs 1190 = .ok (.iload_n 2, 1) := by decide +kernel
theorem dL_rigs_1191 : decode cL_rigs 1191 = .ok (.iconst 3, 1) := by decide +kernel
theorem dL_rigs_1192 : decode cL_rigs 1192 = .ok (.ishr, 1) := by decide +kernel
theorem dL_rigs_1193 : decode cL_rigs 1193 = .ok (.bipush 20, 2) := by decide +kernel
theorem dL_rigs_1195 : decode cL_rigs 1195 = .ok (.invokestatic 98, 3) := by decide +kernel
theorem dL_rigs_1198 : decode cL_rigs 1198 = .ok (.ifCond .ne 7, 3) := by decide +kernel
theorem dL_rigs_1201 : decode cL_rigs 1201 = .ok (.iconst 4, 1) := by decide +kernel
theorem dL_rigs_1202 : decode cL_rigs 1202 = .ok (.goto 12, 3) := by decide +kernel
theorem dL_rigs_1205 : decode cL_rigs 1205 = .ok (.iload_n 2, 1) := by decide +kernel
theorem dL_rigs_1206 : decode cL_rigs 1206 = .ok (.iconst 3, 1) := by decide +kernel
theorem dL_rigs_1207 : decode cL_rigs 1207 = .ok (.ishr, 1) := by decide +kernel
theorem dL_rigs_1208 : decode cL_rigs 1208 = .ok (.iconst 5, 1) := by decide +kernel
theorem dL_rigs_1209 : decode cL_rigs 1209 = .ok (.invokestatic 98, 3) := by decide +kernel
theorem dL_rigs_1212 : decode cL_rigs 1212 = .ok (.iconst 1, 1) := by decide +kernel
theorem dL_rigs_1213 : decode cL_rigs 1213 = .ok (.isub, 1) := by decide +kernel
theorem dL_rigs_1214 : decode cL_rigs 1214 = .ok (.istore 8, 2) := by decide +kernel
theorem dL_rigs_1216 : decode cL_rigs 1216 = .ok (.iload 7, 2) := by decide +kernel
theorem dL_rigs_1218 : decode cL_rigs 1218 = .ok (.ifCond .eq 9, 3) := by decide +kernel
theorem dL_rigs_1221 : decode cL_rigs 1221 = .ok (.iload 8, 2) := by decide +kernel
theorem dL_rigs_1223 : decode cL_rigs 1223 = .ok (.iconst 3, 1) := by decide +kernel
theorem dL_rigs_1224 : decode cL_rigs 1224 = .ok (.if_icmp .le 8, 3) := by decide +kernel
theorem dL_rigs_1227 : decode cL_rigs 1227 = .ok (.bipush (-101), 2) := by decide +kernel
theorem dL_rigs_1229 : decode cL_rigs 1229 = .ok (.goto 11, 3) := by decide +kernel
theorem dL_rigs_1232 : decode cL_rigs 1232 = .ok (.aload 5, 2) := by decide +kernel
theorem dL_rigs_1234 : decode cL_rigs 1234 = .ok (.bipush 25, 2) := by decide +kernel
theorem dL_rigs_1236 : decode cL_rigs 1236 = .ok (.iload 6, 2) := by decide +kernel
theorem dL_rigs_1238 : decode cL_rigs 1238 = .ok (.iadd, 1) := by decide +kernel
theorem dL_rigs_1239 : decode cL_rigs 1239 = .ok (.iaload, 1) := by decide +kernel
theorem dL_rigs_1240 : decode cL_rigs 1240 = .ok (.istore 9, 2) := by decide +kernel
theorem dL_rigs_1242 : decode cL_rigs 1242 = .ok (.iload 9, 2) := by decide +kernel
theorem dL_rigs_1244 : decode cL_rigs 1244 = .ok (.bipush (-2), 2) := by decide +kernel
theorem dL_rigs_1246 : decode cL_rigs 1246 = .ok (.if_icmp .le 13, 3) := by decide +kernel
theorem dL_rigs_1249 : decode cL_rigs 1249 = .ok (.aload 5, 2) := by decide +kernel
theorem dL_rigs_1251 : decode cL_rigs 1251 = .ok (.bipush 25, 2) := by decide +kernel
theorem dL_rigs_1253 : decode cL_rigs 1253 = .ok (.iload 6, 2) := by decide +kernel
theorem dL_rigs_1255 : decode cL_rigs 1255 = .ok (.iadd, 1) := by decide +kernel
theorem dL_rigs_1256 : decode cL_rigs 1256 = .ok (.iload 8, 2) := by decide +kernel
theorem dL_rigs_1258 : decode cL_rigs 1258 = .ok (.iastore, 1) := by decide +kernel
theorem dL_rigs_1259 : decode cL_rigs 1259 = .ok (.aload_n 0, 1) := by decide +kernel
theorem dL_rigs_1260 : decode cL_rigs 1260 = .ok (.iconst 3, 1) := by decide +kernel
theorem dL_rigs_1261 : decode cL_rigs 1261 = .ok (.iload 6, 2) := by decide +kernel
theorem dL_rigs_1263 : decode cL_rigs 1263 = .ok (.iload 8, 2) := by decide +kernel
theorem dL_rigs_1265 : decode cL_rigs 1265 = .ok (.invokestatic 112, 3) := by decide +kernel
theorem dL_rigs_1268 : decode cL_rigs 1268 = .ok (.iload 9, 2) := by decide +kernel
theorem dL_rigs_1270 : decode cL_rigs 1270 = .ok (.if_icmp .ne 7, 3) := by decide +kernel
theorem dL_rigs_1273 : decode cL_rigs 1273 = .ok (.iconst 1, 1) := by decide +kernel
theorem dL_rigs_1274 : decode cL_rigs 1274 = .ok (.goto 4, 3) := by decide +kernel
theorem dL_rigs_1277 : decode cL_rigs 1277 = .ok (.iconst 0, 1) := by decide +kernel
theorem dL_rigs_1278 : decode cL_rigs 1278 = .ok (.ireturn, 1) := by decide +kernel
set_option maxRecDepth 20000 in
theorem ggL_plays_L_some : GoodIn wsL_plays wsL_some := goodIn_r _ [4] (by decide +kernel) (by decide +kernel)
set_option maxRecDepth 20000 in
theorem gL_plays_L_some : GoodIn wsL_plays (va_wsS RL 98 yL_some wsL_some) := goodIn_app (goodIn_of _ (by decide +kernel)) ggL_plays_L_some
set_option maxRecDepth 20000 in
theorem ggL_plays_L_made : GoodIn wsL_plays wsL_made := goodIn_ca (goodIn_ca (goodIn_r _ [7, 8, 9, 10, 11, 12, 13, 14, 15, 16, 17, 18, 19, 20, 21, 22, 23, 24, 25, 26, 27, 28, 29, 30, 31, 32, 33, 34, 35, 36, 37, 38, 39, 40, 41, 42, 43, 44, 45, 46, 47, 237, 238, 239, 240, 241, 242, 243, 244, 245, 246, 247, 248, 249, 250, 251, 252, 253, 254, 255, 256, 257, 258, 259, 260, 261, 262, 263, 264, 265, 266] (by decide +kernel) (by decide +kernel)) (goodIn_sub (fun _ h => List.mem_cons_of_mem _ (List.mem_append_left _ (List.mem_append_left _ (List.mem_append_right _ h)))) (by decide +kernel))) (goodIn_sub (fun _ h => List.mem_cons_of_mem _ (List.mem_append_left _ (List.mem_append_right _ h))) (by decide +kernel))
set_option maxRecDepth 20000 in
theorem gL_plays_L_made : GoodIn wsL_plays (va_wsS RL 105 yL_made wsL_made) := goodIn_app (goodIn_of _ (by decide +kernel)) ggL_plays_L_made
set_option maxRecDepth 20000 in
theorem ggL_plays_L_set : GoodIn wsL_plays wsL_set := goodIn_ca (goodIn_ca (goodIn_ca (goodIn_r _ [50, 51, 8, 9, 52, 53, 54, 13, 55, 20, 56, 57, 58, 59, 60, 61, 17, 21, 22, 23, 24, 25, 62, 63, 64, 65, 66, 67, 68, 69, 70, 71, 72, 73, 74, 75, 39, 76, 41, 77, 78, 79, 80, 81, 18, 82, 83, 84, 85, 86, 15, 16, 87, 88, 89, 90, 44, 91, 92, 237, 238, 239, 240, 241, 242, 243, 252, 253, 254, 255, 256, 257, 258, 259, 260, 261, 262, 263, 264, 265, 266] (by decide +kernel) (by decide +kernel)) (goodIn_sub (fun _ h => List.mem_cons_of_mem _ (List.mem_append_right _ h)) (by decide +kernel))) (goodIn_sub (fun _ h => List.mem_cons_of_mem _ (List.mem_append_left _ (List.mem_append_right _ h))) (by decide +kernel))) (goodIn_sub (fun _ h => List.mem_cons_of_mem _ (List.mem_append_left _ (List.mem_append_left _ (List.mem_append_right _ h)))) (by decide +kernel))
set_option maxRecDepth 20000 in
theorem gL_plays_L_set : GoodIn wsL_plays (va_wsS RL 122 yL_set wsL_set) := goodIn_app (goodIn_of _ (by decide +kernel)) ggL_plays_L_set
set_option maxRecDepth 20000 in
theorem ggL_plays_L_begins : GoodIn wsL_plays wsL_begins := goodIn_r _ [95] (by decide +kernel) (by decide +kernel)
set_option maxRecDepth 20000 in
theorem gL_plays_L_begins : GoodIn wsL_plays (va_wsS RL 125 yL_begins wsL_begins) := goodIn_app (goodIn_of _ (by decide +kernel)) ggL_plays_L_begins
set_option maxRecDepth 20000 in
theorem ggL_plays_L_goes : GoodIn wsL_plays wsL_goes := goodIn_ca (goodIn_r _ [98, 9, 99, 100, 101, 13, 102, 15, 16, 39, 103, 41, 104, 105, 106, 44, 47, 107, 108, 109, 110, 91, 111, 112, 113, 114, 115, 92, 76, 77, 116, 117, 118, 119, 45, 46, 120, 121, 122, 123, 124, 125, 126, 237, 238, 239, 240, 241, 242, 243, 256, 257, 258, 259, 260, 261, 262, 263, 264, 265, 266] (by decide +kernel) (by decide +kernel)) (goodIn_sub (fun _ h => List.mem_cons_of_mem _ (List.mem_append_left _ (List.mem_append_left _ (List.mem_append_right _ h)))) (by decide +kernel))
set_option maxRecDepth 20000 in
theorem gL_plays_L_goes : GoodIn wsL_plays (va_wsS RL 129 yL_goes wsL_goes) := goodIn_app (goodIn_of _ (by decide +kernel)) ggL_plays_L_goes
set_option maxRecDepth 20000 in
theorem ggL_plays_L_level : GoodIn wsL_plays wsL_level := goodIn_r _ [129, 130, 131, 3, 132, 133, 134, 135] (by decide +kernel) (by decide +kernel)
set_option maxRecDepth 20000 in
theorem gL_plays_L_level : GoodIn wsL_plays (va_wsS RL 133 yL_level wsL_level) := goodIn_app (goodIn_of _ (by decide +kernel)) ggL_plays_L_level
set_option maxRecDepth 20000 in
theorem ggL_plays_L_ticks : GoodIn wsL_plays wsL_ticks := goodIn_ca (goodIn_r _ [138, 8, 139, 140, 141, 13, 142, 39, 21, 22, 23, 24, 25, 143, 41, 144, 145, 115, 106, 44, 47, 114, 146, 103, 104, 105, 107, 108, 109, 110, 91, 111, 112, 113, 92, 76, 77, 116, 117, 118, 119, 45, 46, 120, 121, 122, 123, 124, 125, 126, 147, 148, 149, 150, 17, 82, 151, 152, 153, 154, 19, 87, 155, 156, 157, 158, 159, 160, 161, 162, 163, 20, 164, 63, 165, 166, 66, 67, 68, 69, 70, 71, 237, 238, 239, 240, 241, 242, 243, 256, 257, 258, 259, 260, 261, 262, 263, 264, 265, 266, 244, 245, 246, 247, 248, 249, 250, 251, 252, 253, 254, 255] (by decide +kernel) (by decide +kernel)) (goodIn_sub (fun _ h => List.mem_cons_of_mem _ (List.mem_append_left _ (List.mem_append_right _ h))) (by decide +kernel))
set_option maxRecDepth 20000 in
theorem gL_plays_L_ticks : GoodIn wsL_plays (va_wsS RL 136 yL_ticks wsL_ticks) := goodIn_app (goodIn_of _ (by decide +kernel)) ggL_plays_L_ticks
set_option maxRecDepth 20000 in
theorem ggL_plays_X3_rewind : GoodIn wsL_plays wsX3_rewind := goodIn_r _ [170, 39, 171, 41, 172, 173, 106, 113, 174, 175, 176, 177, 237, 238, 239, 240, 241, 242, 243, 256, 257, 258, 259, 260, 261, 262, 263, 264, 265, 266] (by decide +kernel) (by decide +kernel)
set_option maxRecDepth 20000 in
theorem gL_plays_X3_rewind : GoodIn wsL_plays (wsV RL 140 RX3 yX3_rewind wsX3_rewind) := goodIn_app (goodIn_of _ (by decide +kernel)) ggL_plays_X3_rewind
set_option maxRecDepth 20000 in
theorem ggL_plays_L_of : GoodIn wsL_plays wsL_of := goodIn_ca (goodIn_r _ [180, 51, 181, 182, 183, 13, 184, 19, 56, 57, 58, 59, 60, 61, 17, 155, 156, 157, 158, 159, 185, 186, 187, 188, 189, 190, 191, 192, 193, 194, 195, 196, 197, 198, 199, 200, 201, 202, 203, 204, 205, 206, 207, 208, 209, 210, 211, 212, 213, 20, 214, 215, 216, 217, 218, 219, 220, 151, 152, 153, 154, 87, 39, 117, 41, 118, 119, 113, 44, 115, 114, 45, 112, 111, 46, 120, 121, 122, 123, 124, 125, 126, 221, 222, 223, 224, 225, 226, 227, 228, 229, 230, 231, 232, 233, 234, 235, 236, 237, 238, 239, 240, 241, 242, 243, 244, 245, 246, 247, 248, 249, 250, 251, 252, 253, 254, 255, 256, 257, 258, 259, 260, 261, 262, 263, 264, 265, 266] (by decide +kernel) (by decide +kernel)) (goodIn_sub (fun _ h => List.mem_cons_of_mem _ (List.mem_append_right _ h)) (by decide +kernel))
set_option maxRecDepth 20000 in
theorem gL_plays_L_of : GoodIn wsL_plays (va_wsS RL 112 yL_of wsL_of) := goodIn_app (goodIn_of _ (by decide +kernel)) ggL_plays_L_of
theorem dL_plays_0 : decode cL_plays 0 = .ok (.iload_n 2, 1) := by decide +kernel
theorem dL_plays_1 : decode cL_plays 1 = .ok (.aload_n 3, 1) := by decide +kernel
theorem dL_plays_2 : decode cL_plays 2 = .ok (.iconst 3, 1) := by decide +kernel
theorem dL_plays_3 : decode cL_plays 3 = .ok (.iaload, 1) := by decide +kernel
theorem dL_plays_4 : decode cL_plays 4 = .ok (.iconst 1, 1) := by decide +kernel
theorem dL_plays_5 : decode cL_plays 5 = .ok (.iadd, 1) := by decide +kernel
theorem dL_plays_6 : decode cL_plays 6 = .ok (.invokestatic 98, 3) := by decide +kernel
theorem dL_plays_9 : decode cL_plays 9 = .ok (.iload_n 2, 1) := by decide +kernel
theorem dL_plays_10 : decode cL_plays 10 = .ok (.bipush 11, 2) := by decide +kernel
theorem dL_plays_12 : decode cL_plays 12 = .ok (.ishr, 1) := by decide +kernel
theorem dL_plays_13 : decode cL_plays 13 = .ok (.bipush 19, 2) := by decide +kernel
theorem dL_plays_15 : decode cL_plays 15 = .ok (.invokestatic 98, 3) := by decide +kernel
theorem dL_plays_18 : decode cL_plays 18 = .ok (.ifCond .ne 7, 3) := by decide +kernel
theorem dL_plays_21 : decode cL_plays 21 = .ok (.iconst 1, 1) := by decide +kernel
theorem dL_plays_22 : decode cL_plays 22 = .ok (.goto 4, 3) := by decide +kernel
theorem dL_plays_25 : decode cL_plays 25 = .ok (.iconst 0, 1) := by decide +kernel
theorem dL_plays_26 : decode cL_plays 26 = .ok (.isub, 1) := by decide +kernel
theorem dL_plays_27 : decode cL_plays 27 = .ok (.istore 8, 2) := by decide +kernel
theorem dL_plays_29 : decode cL_plays 29 = .ok (.iload 8, 2) := by decide +kernel
theorem dL_plays_31 : decode cL_plays 31 = .ok (.ifCond .lt 15, 3) := by decide +kernel
theorem dL_plays_34 : decode cL_plays 34 = .ok (.iload 8, 2) := by decide +kernel
theorem dL_plays_36 : decode cL_plays 36 = .ok (.aload_n 3, 1) := by decide +kernel
theorem dL_plays_37 : decode cL_plays 37 = .ok (.iconst 3, 1) := by decide +kernel
theorem dL_plays_38 : decode cL_plays 38 = .ok (.iaload, 1) := by decide +kernel
theorem dL_plays_39 : decode cL_plays 39 = .ok (.if_icmp .ge 7, 3) := by decide +kernel
theorem dL_plays_42 : decode cL_plays 42 = .ok (.iconst 1, 1) := by decide +kernel
theorem dL_plays_43 : decode cL_plays 43 = .ok (.goto 4, 3) := by decide +kernel
theorem dL_plays_46 : decode cL_plays 46 = .ok (.iconst 0, 1) := by decide +kernel
theorem dL_plays_47 : decode cL_plays 47 = .ok (.istore 9, 2) := by decide +kernel
theorem dL_plays_49 : decode cL_plays 49 = .ok (.iload_n 1, 1) := by decide +kernel
theorem dL_plays_50 : decode cL_plays 50 = .ok (.ifCond .ne 227, 3) := by decide +kernel
theorem dL_plays_53 : decode cL_plays 53 = .ok (.iload_n 2, 1) := by decide +kernel
theorem dL_plays_54 : decode cL_plays 54 = .ok (.iconst 2, 1) := by decide +kernel
theorem dL_plays_55 : decode cL_plays 55 = .ok (.ishr, 1) := by decide +kernel
theorem dL_plays_56 : decode cL_plays 56 = .ok (.bipush 40, 2) := by decide +kernel
theorem dL_plays_58 : decode cL_plays 58 = .ok (.invokestatic 98, 3) := by decide +kernel
theorem dL_plays_61 : decode cL_plays 61 = .ok (.ifCond .ne 8, 3) := by decide +kernel
theorem dL_plays_64 : decode cL_plays 64 = .ok (.bipush 51, 2) := by decide +kernel
theorem dL_plays_66 : decode cL_plays 66 = .ok (.goto 25, 3) := by decide +kernel
theorem dL_plays_69 : decode cL_plays 69 = .ok (.iload_n 2, 1) := by decide +kernel
theorem dL_plays_70 : decode cL_plays 70 = .ok (.iconst 2, 1) := by decide +kernel
theorem dL_plays_71 : decode cL_plays 71 = .ok (.ishr, 1) := by decide +kernel
theorem dL_plays_72 : decode cL_plays 72 = .ok (.iconst 3, 1) := by decide +kernel
theorem dL_plays_73 : decode cL_plays 73 = .ok (.invokestatic 98, 3) := by decide +kernel
theorem dL_plays_76 : decode cL_plays 76 = .ok (.ifCond .ne 7, 3) := by decide +kernel
theorem dL_plays_79 : decode cL_plays 79 = .ok (.iconst 0, 1) := by decide +kernel
theorem dL_plays_80 : decode cL_plays 80 = .ok (.goto 11, 3) := by decide +kernel
theorem dL_plays_83 : decode cL_plays 83 = .ok (.iload_n 2, 1) := by decide +kernel
theorem dL_plays_84 : decode cL_plays 84 = .ok (.iconst 3, 1) := by decide +kernel
theorem dL_plays_85 : decode cL_plays 85 = .ok (.ishr, 1) := by decide +kernel
theorem dL_plays_86 : decode cL_plays 86 = .ok (.bipush 20, 2) := by decide +kernel
theorem dL_plays_88 : decode cL_plays 88 = .ok (.invokestatic 98, 3) := by decide +kernel
theorem dL_plays_91 : decode cL_plays 91 = .ok (.istore 10, 2) := by decide +kernel
theorem dL_plays_93 : decode cL_plays 93 = .ok (.iload_n 2, 1) := by decide +kernel
theorem dL_plays_94 : decode cL_plays 94 = .ok (.iconst 5, 1) := by decide +kernel
theorem dL_plays_95 : decode cL_plays 95 = .ok (.ishr, 1) := by decide +kernel
theorem dL_plays_96 : decode cL_plays 96 = .ok (.bipush 40, 2) := by decide +kernel
theorem dL_plays_98 : decode cL_plays 98 = .ok (.invokestatic 98, 3) := by decide +kernel
theorem dL_plays_101 : decode cL_plays 101 = .ok (.ifCond .ne 7, 3) := by decide +kernel
theorem dL_plays_104 : decode cL_plays 104 = .ok (.iconst 3, 1) := by decide +kernel
theorem dL_plays_105 : decode cL_plays 105 = .ok (.goto 10, 3) := by decide +kernel
theorem dL_plays_108 : decode cL_plays 108 = .ok (.iload_n 2, 1) := by decide +kernel
theorem dL_plays_109 : decode cL_plays 109 = .ok (.iconst 5, 1) := by decide +kernel
theorem dL_plays_110 : decode cL_plays 110 = .ok (.ishr, 1) := by decide +kernel
theorem dL_plays_111 : decode cL_plays 111 = .ok (.iconst 3, 1) := by decide +kernel
theorem dL_plays_112 : decode cL_plays 112 = .ok (.invokestatic 98, 3) := by decide +kernel
theorem dL_plays_115 : decode cL_plays 115 = .ok (.istore 11, 2) := by decide +kernel
theorem dL_plays_117 : decode cL_plays 117 = .ok (.iload_n 2, 1) := by decide +kernel
theorem dL_plays_118 : decode cL_plays 118 = .ok (.bipush 7, 2) := by decide +kernel
theorem dL_plays_120 : decode cL_plays 120 = .ok (.ishr, 1) := by decide +kernel
theorem dL_plays_121 : decode cL_plays 121 = .ok (.bipush 40, 2) := by decide +kernel
theorem dL_plays_123 : decode cL_plays 123 = .ok (.invokestatic 98, 3) := by decide +kernel
theorem dL_plays_126 : decode cL_plays 126 = .ok (.ifCond .ne 8, 3) := by decide +kernel
theorem dL_plays_129 : decode cL_plays 129 = .ok (.bipush (-2), 2) := by decide +kernel
theorem dL_plays_131 : decode cL_plays 131 = .ok (.goto 27, 3) := by decide +kernel
theorem dL_plays_134 : decode cL_plays 134 = .ok (.iload_n 2, 1) := by decide +kernel
theorem dL_plays_135 : decode cL_plays 135 = .ok (.bipush 7, 2) := by decide +kernel
theorem dL_plays_137 : decode cL_plays 137 = .ok (.ishr, 1) := by decide +kernel
theorem dL_plays_138 : decode cL_plays 138 = .ok (.iconst 3, 1) := by decide +kernel
theorem dL_plays_139 : decode cL_plays 139 = .ok (.invokestatic 98, 3) := by decide +kernel
theorem dL_plays_142 : decode cL_plays 142 = .ok (.ifCond .ne 7, 3) := by decide +kernel
theorem dL_plays_145 : decode cL_plays 145 = .ok (.iconst (-1), 1) := by decide +kernel
theorem dL_plays_146 : decode cL_plays 146 = .ok (.goto 12, 3) := by decide +kernel
theorem dL_plays_149 : decode cL_plays 149 = .ok (.iload_n 2, 1) := by decide +kernel
theorem dL_plays_150 : decode cL_plays 150 = .ok (.bipush 8, 2) := by decide +kernel
theorem dL_plays_152 : decode cL_plays 152 = .ok (.ishr, 1) := by decide +kernel
theorem dL_plays_153 : decode cL_plays 153 = .ok (.bipush 6, 2) := by decide +kernel
theorem dL_plays_155 : decode cL_plays 155 = .ok (.invokestatic 98, 3) := by decide +kernel
theorem dL_plays_158 : decode cL_plays 158 = .ok (.istore 12, 2) := by decide +kernel
theorem dL_plays_160 : decode cL_plays 160 = .ok (.iload 10, 2) := by decide +kernel
theorem dL_plays_162 : decode cL_plays 162 = .ok (.bipush 51, 2) := by decide +kernel
theorem dL_plays_164 : decode cL_plays 164 = .ok (.if_icmp .ge 20, 3) := by decide +kernel
theorem dL_plays_167 : decode cL_plays 167 = .ok (.iload 11, 2) := by decide +kernel
theorem dL_plays_169 : decode cL_plays 169 = .ok (.iconst 3, 1) := by decide +kernel
theorem dL_plays_170 : decode cL_plays 170 = .ok (.if_icmp .ge 14, 3) := by decide +kernel
theorem dL_plays_173 : decode cL_plays 173 = .ok (.iload 12, 2) := by decide +kernel
theorem dL_plays_175 : decode cL_plays 175 = .ok (.bipush (-2), 2) := by decide +kernel
theorem dL_plays_177 : decode cL_plays 177 = .ok (.if_icmp .le 7, 3) := by decide +kernel
theorem dL_plays_180 : decode cL_plays 180 = .ok (.iconst 1, 1) := by decide +kernel
theorem dL_plays_181 : decode cL_plays 181 = .ok (.goto 4, 3) := by decide +kernel
theorem dL_plays_184 : decode cL_plays 184 = .ok (.iconst 0, 1) := by decide +kernel
theorem dL_plays_185 : decode cL_plays 185 = .ok (.istore 13, 2) := by decide +kernel
theorem dL_plays_187 : decode cL_plays 187 = .ok (.iload 13, 2) := by decide +kernel
theorem dL_plays_189 : decode cL_plays 189 = .ok (.ifCond .eq 12, 3) := by decide +kernel
theorem dL_plays_192 : decode cL_plays 192 = .ok (.aload_n 3, 1) := by decide +kernel
theorem dL_plays_193 : decode cL_plays 193 = .ok (.iconst 4, 1) := by decide +kernel
theorem dL_plays_194 : decode cL_plays 194 = .ok (.iaload, 1) := by decide +kernel
theorem dL_plays_195 : decode cL_plays 195 = .ok (.iconst 4, 1) := by decide +kernel
theorem dL_plays_196 : decode cL_plays 196 = .ok (.if_icmp .ne 5, 3) := by decide +kernel
theorem dL_plays_199 : decode cL_plays 199 = .ok (.iconst 1, 1) := by decide +kernel
theorem dL_plays_200 : decode cL_plays 200 = .ok (.ireturn, 1) := by decide +kernel
theorem dL_plays_201 : decode cL_plays 201 = .ok (.iload 13, 2) := by decide +kernel
theorem dL_plays_203 : decode cL_plays 203 = .ok (.ifCond .eq 39, 3) := by decide +kernel
theorem dL_plays_206 : decode cL_plays 206 = .ok (.aload 5, 2) := by decide +kernel
theorem dL_plays_208 : decode cL_plays 208 = .ok (.aload_n 3, 1) := by decide +kernel
theorem dL_plays_209 : decode cL_plays 209 = .ok (.iconst 4, 1) := by decide +kernel
theorem dL_plays_210 : decode cL_plays 210 = .ok (.iaload, 1) := by decide +kernel
theorem dL_plays_211 : decode cL_plays 211 = .ok (.iload 10, 2) := by decide +kernel
theorem dL_plays_213 : decode cL_plays 213 = .ok (.iastore, 1) := by decide +kernel
theorem dL_plays_214 : decode cL_plays 214 = .ok (.aload 5, 2) := by decide +kernel
theorem dL_plays_216 : decode cL_plays 216 = .ok (.iconst 4, 1) := by decide +kernel
theorem dL_plays_217 : decode cL_plays 217 = .ok (.aload_n 3, 1) := by decide +kernel
theorem dL_plays_218 : decode cL_plays 218 = .ok (.iconst 4, 1) := by decide +kernel
theorem dL_plays_219 : decode cL_plays 219 = .ok (.iaload, 1) := by decide +kernel
theorem dL_plays_220 : decode cL_plays 220 = .ok (.iadd, 1) := by decide +kernel
theorem dL_plays_221 : decode cL_plays 221 = .ok (.iload 11, 2) := by decide +kernel
theorem dL_plays_223 : decode cL_plays 223 = .ok (.iastore, 1) := by decide +kernel
theorem dL_plays_224 : decode cL_plays 224 = .ok (.aload 5, 2) := by decide +kernel
theorem dL_plays_226 : decode cL_plays 226 = .ok (.bipush 8, 2) := by decide +kernel
theorem dL_plays_228 : decode cL_plays 228 = .ok (.aload_n 3, 1) := by decide +kernel
theorem dL_plays_229 : decode cL_plays 229 = .ok (.iconst 4, 1) := by decide +kernel
theorem dL_plays_230 : decode cL_plays 230 = .ok (.iaload, 1) := by decide +kernel
theorem dL_plays_231 : decode cL_plays 231 = .ok (.iadd, 1) := by decide +kernel
theorem dL_plays_232 : decode cL_plays 232 = .ok (.iload 12, 2) := by decide +kernel
theorem dL_plays_234 : decode cL_plays 234 = .ok (.iastore, 1) := by decide +kernel
theorem dL_plays_235 : decode cL_plays 235 = .ok (.aload_n 3, 1) := by decide +kernel
theorem dL_plays_236 : decode cL_plays 236 = .ok (.iconst 4, 1) := by decide +kernel
theorem dL_plays_237 : decode cL_plays 237 = .ok (.dup2, 1) := by decide +kernel
theorem dL_plays_238 : decode cL_plays 238 = .ok (.iaload, 1) := by decide +kernel
theorem dL_plays_239 : decode cL_plays 239 = .ok (.iconst 1, 1) := by decide +kernel
theorem dL_plays_240 : decode cL_plays 240 = .ok (.iadd, 1) := by decide +kernel
theorem dL_plays_241 : decode cL_plays 241 = .ok (.iastore, 1) := by decide +kernel
theorem dL_plays_242 : decode cL_plays 242 = .ok (.aload_n 0, 1) := by decide +kernel
theorem dL_plays_243 : decode cL_plays 243 = .ok (.iconst 1, 1) := by decide +kernel
theorem dL_plays_244 : decode cL_plays 244 = .ok (.iload 10, 2) := by decide +kernel
theorem dL_plays_246 : decode cL_plays 246 = .ok (.iload 11, 2) := by decide +kernel
theorem dL_plays_248 : decode cL_plays 248 = .ok (.iload 12, 2) := by decide +kernel
theorem dL_plays_250 : decode cL_plays 250 = .ok (.invokestatic 105, 3) := by decide +kernel
theorem dL_plays_253 : decode cL_plays 253 = .ok (.iload 13, 2) := by decide +kernel
theorem dL_plays_255 : decode cL_plays 255 = .ok (.ifCond .eq 11, 3) := by decide +kernel
theorem dL_plays_258 : decode cL_plays 258 = .ok (.aload_n 3, 1) := by decide +kernel
theorem dL_plays_259 : decode cL_plays 259 = .ok (.iconst 4, 1) := by decide +kernel
theorem dL_plays_260 : decode cL_plays 260 = .ok (.iaload, 1) := by decide +kernel
theorem dL_plays_261 : decode cL_plays 261 = .ok (.iconst 1, 1) := by decide +kernel
theorem dL_plays_262 : decode cL_plays 262 = .ok (.isub, 1) := by decide +kernel
theorem dL_plays_263 : decode cL_plays 263 = .ok (.goto 5, 3) := by decide +kernel
theorem dL_plays_266 : decode cL_plays 266 = .ok (.bipush (-101), 2) := by decide +kernel
theorem dL_plays_268 : decode cL_plays 268 = .ok (.if_icmp .ne 7, 3) := by decide +kernel
theorem dL_plays_271 : decode cL_plays 271 = .ok (.iconst 1, 1) := by decide +kernel
theorem dL_plays_272 : decode cL_plays 272 = .ok (.goto 4, 3) := by decide +kernel
theorem dL_plays_275 : decode cL_plays 275 = .ok (.iconst 0, 1) := by decide +kernel
theorem dL_plays_276 : decode cL_plays 276 = .ok (.ireturn, 1) := by decide +kernel
theorem dL_plays_277 : decode cL_plays 277 = .ok (.iload_n 1, 1) := by decide +kernel
theorem dL_plays_278 : decode cL_plays 278 = .ok (.iconst 1, 1) := by decide +kernel
theorem dL_plays_279 : decode cL_plays 279 = .ok (.if_icmp .ne 152, 3) := by decide +kernel
theorem dL_plays_282 : decode cL_plays 282 = .ok (.iload_n 2, 1) := by decide +kernel
theorem dL_plays_283 : decode cL_plays 283 = .ok (.iconst 3, 1) := by decide +kernel
theorem dL_plays_284 : decode cL_plays 284 = .ok (.ishr, 1) := by decide +kernel
theorem dL_plays_285 : decode cL_plays 285 = .ok (.aload_n 3, 1) := by decide +kernel
theorem dL_plays_286 : decode cL_plays 286 = .ok (.iconst 4, 1) := by decide +kernel
theorem dL_plays_287 : decode cL_plays 287 = .ok (.iaload, 1) := by decide +kernel
theorem dL_plays_288 : decode cL_plays 288 = .ok (.iconst 1, 1) := by decide +kernel
theorem dL_plays_289 : decode cL_plays 289 = .ok (.iadd, 1) := by decide +kernel
theorem dL_plays_290 : decode cL_plays 290 = .ok (.invokestatic 98, 3) := by decide +kernel
theorem dL_plays_293 : decode cL_plays 293 = .ok (.istore 10, 2) := by decide +kernel
theorem dL_plays_295 : decode cL_plays 295 = .ok (.iload_n 2, 1) := by decide +kernel
theorem dL_plays_296 : decode cL_plays 296 = .ok (.iconst 5, 1) := by decide +kernel
theorem dL_plays_297 : decode cL_plays 297 = .ok (.ishr, 1) := by decide +kernel
theorem dL_plays_298 : decode cL_plays 298 = .ok (.bipush 40, 2) := by decide +kernel
theorem dL_plays_300 : decode cL_plays 300 = .ok (.invokestatic 98, 3) := by decide +kernel
theorem dL_plays_303 : decode cL_plays 303 = .ok (.ifCond .ne 8, 3) := by decide +kernel
theorem dL_plays_306 : decode cL_plays 306 = .ok (.bipush 101, 2) := by decide +kernel
theorem dL_plays_308 : decode cL_plays 308 = .ok (.goto 26, 3) := by decide +kernel
theorem dL_plays_311 : decode cL_plays 311 = .ok (.iload_n 2, 1) := by decide +kernel
theorem dL_plays_312 : decode cL_plays 312 = .ok (.iconst 5, 1) := by decide +kernel
theorem dL_plays_313 : decode cL_plays 313 = .ok (.ishr, 1) := by decide +kernel
theorem dL_plays_314 : decode cL_plays 314 = .ok (.iconst 4, 1) := by decide +kernel
theorem dL_plays_315 : decode cL_plays 315 = .ok (.invokestatic 98, 3) := by decide +kernel
theorem dL_plays_318 : decode cL_plays 318 = .ok (.ifCond .ne 7, 3) := by decide +kernel
theorem dL_plays_321 : decode cL_plays 321 = .ok (.iconst (-1), 1) := by decide +kernel
theorem dL_plays_322 : decode cL_plays 322 = .ok (.goto 12, 3) := by decide +kernel
theorem dL_plays_325 : decode cL_plays 325 = .ok (.iload_n 2, 1) := by decide +kernel
theorem dL_plays_326 : decode cL_plays 326 = .ok (.bipush 6, 2) := by decide +kernel
theorem dL_plays_328 : decode cL_plays 328 = .ok (.ishr, 1) := by decide +kernel
theorem dL_plays_329 : decode cL_plays 329 = .ok (.bipush 101, 2) := by decide +kernel
theorem dL_plays_331 : decode cL_plays 331 = .ok (.invokestatic 98, 3) := by decide +kernel
theorem dL_plays_334 : decode cL_plays 334 = .ok (.istore 11, 2) := by decide +kernel
theorem dL_plays_336 : decode cL_plays 336 = .ok (.iload 9, 2) := by decide +kernel
theorem dL_plays_338 : decode cL_plays 338 = .ok (.ifCond .eq 15, 3) := by decide +kernel
theorem dL_plays_341 : decode cL_plays 341 = .ok (.iload 10, 2) := by decide +kernel
theorem dL_plays_343 : decode cL_plays 343 = .ok (.aload_n 3, 1) := by decide +kernel
theorem dL_plays_344 : decode cL_plays 344 = .ok (.iconst 4, 1) := by decide +kernel
theorem dL_plays_345 : decode cL_plays 345 = .ok (.iaload, 1) := by decide +kernel
theorem dL_plays_346 : decode cL_plays 346 = .ok (.if_icmp .ge 7, 3) := by decide +kernel
theorem dL_plays_349 : decode cL_plays 349 = .ok (.iconst 1, 1) := by decide +kernel
theorem dL_plays_350 : decode cL_plays 350 = .ok (.goto 4, 3) := by decide +kernel
theorem dL_plays_353 : decode cL_plays 353 = .ok (.iconst 0, 1) := by decide +kernel
theorem dL_plays_354 : decode cL_plays 354 = .ok (.istore 9, 2) := by decide +kernel
theorem dL_plays_356 : decode cL_plays 356 = .ok (.iload 9, 2) := by decide +kernel
theorem dL_plays_358 : decode cL_plays 358 = .ok (.ifCond .ne 8, 3) := by decide +kernel
theorem dL_plays_361 : decode cL_plays 361 = .ok (.bipush (-101), 2) := by decide +kernel
theorem dL_plays_363 : decode cL_plays 363 = .ok (.goto 25, 3) := by decide +kernel
theorem dL_plays_366 : decode cL_plays 366 = .ok (.iload 11, 2) := by decide +kernel
theorem dL_plays_368 : decode cL_plays 368 = .ok (.bipush 100, 2) := by decide +kernel
theorem dL_plays_370 : decode cL_plays 370 = .ok (.if_icmp .le 8, 3) := by decide +kernel
theorem dL_plays_373 : decode cL_plays 373 = .ok (.bipush (-102), 2) := by decide +kernel
theorem dL_plays_375 : decode cL_plays 375 = .ok (.goto 13, 3) := by decide +kernel
theorem dL_plays_378 : decode cL_plays 378 = .ok (.aload 6, 2) := by decide +kernel
theorem dL_plays_380 : decode cL_plays 380 = .ok (.iconst 5, 1) := by decide +kernel
theorem dL_plays_381 : decode cL_plays 381 = .ok (.iload 10, 2) := by decide +kernel
theorem dL_plays_383 : decode cL_plays 383 = .ok (.imul, 1) := by decide +kernel
theorem dL_plays_384 : decode cL_plays 384 = .ok (.iload 8, 2) := by decide +kernel
theorem dL_plays_386 : decode cL_plays 386 = .ok (.iadd, 1) := by decide +kernel
theorem dL_plays_387 : decode cL_plays 387 = .ok (.iaload, 1) := by decide +kernel
theorem dL_plays_388 : decode cL_plays 388 = .ok (.istore 12, 2) := by decide +kernel
theorem dL_plays_390 : decode cL_plays 390 = .ok (.iload 12, 2) := by decide +kernel
theorem dL_plays_392 : decode cL_plays 392 = .ok (.bipush (-2), 2) := by decide +kernel
theorem dL_plays_394 : decode cL_plays 394 = .ok (.if_icmp .le 15, 3) := by decide +kernel
theorem dL_plays_397 : decode cL_plays 397 = .ok (.aload 6, 2) := by decide +kernel
theorem dL_plays_399 : decode cL_plays 399 = .ok (.iconst 5, 1) := by decide +kernel
theorem dL_plays_400 : decode cL_plays 400 = .ok (.iload 10, 2) := by decide +kernel
theorem dL_plays_402 : decode cL_plays 402 = .ok (.imul, 1) := by decide +kernel
theorem dL_plays_403 : decode cL_plays 403 = .ok (.iload 8, 2) := by decide +kernel
theorem dL_plays_405 : decode cL_plays 405 = .ok (.iadd, 1) := by decide +kernel
theorem dL_plays_406 : decode cL_plays 406 = .ok (.iload 11, 2) := by decide +kernel
theorem dL_plays_408 : decode cL_plays 408 = .ok (.iastore, 1) := by decide +kernel
theorem dL_plays_409 : decode cL_plays 409 = .ok (.aload_n 0, 1) := by decide +kernel
theorem dL_plays_410 : decode cL_plays 410 = .ok (.iconst 1, 1) := by decide +kernel
theorem dL_plays_411 : decode cL_plays 411 = .ok (.iload 10, 2) := by decide +kernel
theorem dL_plays_413 : decode cL_plays 413 = .ok (.iload 8, 2) := by decide +kernel
theorem dL_plays_415 : decode cL_plays 415 = .ok (.iload 11, 2) := by decide +kernel
theorem dL_plays_417 : decode cL_plays 417 = .ok (.invokestatic 122, 3) := by decide +kernel
theorem dL_plays_420 : decode cL_plays 420 = .ok (.iload 12, 2) := by decide +kernel
theorem dL_plays_422 : decode cL_plays 422 = .ok (.if_icmp .ne 7, 3) := by decide +kernel
theorem dL_plays_425 : decode cL_plays 425 = .ok (.iconst 1, 1) := by decide +kernel
theorem dL_plays_426 : decode cL_plays 426 = .ok (.goto 4, 3) := by decide +kernel
theorem dL_plays_429 : decode cL_plays 429 = .ok (.iconst 0, 1) := by decide +kernel
theorem dL_plays_430 : decode cL_plays 430 = .ok (.ireturn, 1) := by decide +kernel
theorem dL_plays_431 : decode cL_plays 431 = .ok (.iload_n 1, 1) := by decide +kernel
theorem dL_plays_432 : decode cL_plays 432 = .ok (.iconst 2, 1) := by decide +kernel
theorem dL_plays_433 : decode cL_plays 433 = .ok (.if_icmp .ne 58, 3) := by decide +kernel
theorem dL_plays_436 : decode cL_plays 436 = .ok (.aload_n 3, 1) := by decide +kernel
theorem dL_plays_437 : decode cL_plays 437 = .ok (.iconst 5, 1) := by decide +kernel
theorem dL_plays_438 : decode cL_plays 438 = .ok (.iaload, 1) := by decide +kernel
theorem dL_plays_439 : decode cL_plays 439 = .ok (.aload_n 3, 1) := by decide +kernel
theorem dL_plays_440 : decode cL_plays 440 = .ok (.iconst 4, 1) := by decide +kernel
theorem dL_plays_441 : decode cL_plays 441 = .ok (.iaload, 1) := by decide +kernel
theorem dL_plays_442 : decode cL_plays 442 = .ok (.if_icmp .ge 7, 3) := by decide +kernel
theorem dL_plays_445 : decode cL_plays 445 = .ok (.iconst 1, 1) := by decide +kernel
theorem dL_plays_446 : decode cL_plays 446 = .ok (.goto 4, 3) := by decide +kernel
theorem dL_plays_449 : decode cL_plays 449 = .ok (.iconst 0, 1) := by decide +kernel
theorem dL_plays_450 : decode cL_plays 450 = .ok (.istore 10, 2) := by decide +kernel
theorem dL_plays_452 : decode cL_plays 452 = .ok (.aload_n 3, 1) := by decide +kernel
theorem dL_plays_453 : decode cL_plays 453 = .ok (.aload 5, 2) := by decide +kernel
theorem dL_plays_455 : decode cL_plays 455 = .ok (.aload 6, 2) := by decide +kernel
theorem dL_plays_457 : decode cL_plays 457 = .ok (.aload 7, 2) := by decide +kernel
theorem dL_plays_459 : decode cL_plays 459 = .ok (.invokestatic 125, 3) := by decide +kernel
theorem dL_plays_462 : decode cL_plays 462 = .ok (.pop, 1) := by decide +kernel
theorem dL_plays_463 : decode cL_plays 463 = .ok (.aload_n 0, 1) := by decide +kernel
theorem dL_plays_464 : decode cL_plays 464 = .ok (.invokestatic 129, 3) := by decide +kernel
theorem dL_plays_467 : decode cL_plays 467 = .ok (.iload 10, 2) := by decide +kernel
theorem dL_plays_469 : decode cL_plays 469 = .ok (.ifCond .eq 11, 3) := by decide +kernel
theorem dL_plays_472 : decode cL_plays 472 = .ok (.aload_n 3, 1) := by decide +kernel
theorem dL_plays_473 : decode cL_plays 473 = .ok (.iconst 5, 1) := by decide +kernel
theorem dL_plays_474 : decode cL_plays 474 = .ok (.iaload, 1) := by decide +kernel
theorem dL_plays_475 : decode cL_plays 475 = .ok (.iconst 1, 1) := by decide +kernel
theorem dL_plays_476 : decode cL_plays 476 = .ok (.isub, 1) := by decide +kernel
theorem dL_plays_477 : decode cL_plays 477 = .ok (.goto 5, 3) := by decide +kernel
theorem dL_plays_480 : decode cL_plays 480 = .ok (.bipush (-101), 2) := by decide +kernel
theorem dL_plays_482 : decode cL_plays 482 = .ok (.if_icmp .ne 7, 3) := by decide +kernel
theorem dL_plays_485 : decode cL_plays 485 = .ok (.iconst 1, 1) := by decide +kernel
theorem dL_plays_486 : decode cL_plays 486 = .ok (.goto 4, 3) := by decide +kernel
theorem dL_plays_489 : decode cL_plays 489 = .ok (.iconst 0, 1) := by decide +kernel
theorem dL_plays_490 : decode cL_plays 490 = .ok (.ireturn, 1) := by decide +kernel
theorem dL_plays_491 : decode cL_plays 491 = .ok (.iload_n 1, 1) := by decide +kernel
theorem dL_plays_492 : decode cL_plays 492 = .ok (.iconst 3, 1) := by decide +kernel
theorem dL_plays_493 : decode cL_plays 493 = .ok (.if_icmp .ne 226, 3) := by decide +kernel
theorem dL_plays_496 : decode cL_plays 496 = .ok (.iload_n 2, 1) := by decide +kernel
theorem dL_plays_497 : decode cL_plays 497 = .ok (.bipush 40, 2) := by decide +kernel
theorem dL_plays_499 : decode cL_plays 499 = .ok (.invokestatic 98, 3) := by decide +kernel
theorem dL_plays_502 : decode cL_plays 502 = .ok (.ifCond .ne 16, 3) := by decide +kernel
theorem dL_plays_505 : decode cL_plays 505 = .ok (.bipush 51, 2) := by decide +kernel
theorem dL_plays_507 : decode cL_plays 507 = .ok (.iload_n 2, 1) := by decide +kernel
theorem dL_plays_508 : decode cL_plays 508 = .ok (.iconst 3, 1) := by decide +kernel
theorem dL_plays_509 : decode cL_plays 509 = .ok (.ishr, 1) := by decide +kernel
theorem dL_plays_510 : decode cL_plays 510 = .ok (.iconst 2, 1) := by decide +kernel
theorem dL_plays_511 : decode cL_plays 511 = .ok (.invokestatic 98, 3) := by decide +kernel
theorem dL_plays_514 : decode cL_plays 514 = .ok (.imul, 1) := by decide +kernel
theorem dL_plays_515 : decode cL_plays 515 = .ok (.goto 13, 3) := by decide +kernel
theorem dL_plays_518 : decode cL_plays 518 = .ok (.iconst 1, 1) := by decide +kernel
theorem dL_plays_519 : decode cL_plays 519 = .ok (.iload_n 2, 1) := by decide +kernel
theorem dL_plays_520 : decode cL_plays 520 = .ok (.iconst 2, 1) := by decide +kernel
theorem dL_plays_521 : decode cL_plays 521 = .ok (.ishr, 1) := by decide +kernel
theorem dL_plays_522 : decode cL_plays 522 = .ok (.bipush 12, 2) := by decide +kernel
theorem dL_plays_524 : decode cL_plays 524 = .ok (.invokestatic 98, 3) := by decide +kernel
theorem dL_plays_527 : decode cL_plays 527 = .ok (.iadd, 1) := by decide +kernel
theorem dL_plays_528 : decode cL_plays 528 = .ok (.istore 10, 2) := by decide +kernel
theorem dL_plays_530 : decode cL_plays 530 = .ok (.iload 10, 2) := by decide +kernel
theorem dL_plays_532 : decode cL_plays 532 = .ok (.ifCond .le 14, 3) := by decide +kernel
theorem dL_plays_535 : decode cL_plays 535 = .ok (.iload 10, 2) := by decide +kernel
theorem dL_plays_537 : decode cL_plays 537 = .ok (.bipush 51, 2) := by decide +kernel
theorem dL_plays_539 : decode cL_plays 539 = .ok (.if_icmp .ge 7, 3) := by decide +kernel
theorem dL_plays_542 : decode cL_plays 542 = .ok (.iconst 1, 1) := by decide +kernel
theorem dL_plays_543 : decode cL_plays 543 = .ok (.goto 4, 3) := by decide +kernel
theorem dL_plays_546 : decode cL_plays 546 = .ok (.iconst 0, 1) := by decide +kernel
theorem dL_plays_547 : decode cL_plays 547 = .ok (.istore 11, 2) := by decide +kernel
theorem dL_plays_549 : decode cL_plays 549 = .ok (.iconst 0, 1) := by decide +kernel
theorem dL_plays_550 : decode cL_plays 550 = .ok (.istore 12, 2) := by decide +kernel
theorem dL_plays_552 : decode cL_plays 552 = .ok (.iconst 0, 1) := by decide +kernel
theorem dL_plays_553 : decode cL_plays 553 = .ok (.istore 13, 2) := by decide +kernel
theorem dL_plays_555 : decode cL_plays 555 = .ok (.iload 13, 2) := by decide +kernel
theorem dL_plays_557 : decode cL_plays 557 = .ok (.iload 10, 2) := by decide +kernel
theorem dL_plays_559 : decode cL_plays 559 = .ok (.if_icmp .ge 132, 3) := by decide +kernel
theorem dL_plays_562 : decode cL_plays 562 = .ok (.iload 11, 2) := by decide +kernel
theorem dL_plays_564 : decode cL_plays 564 = .ok (.ifCond .eq 127, 3) := by decide +kernel
theorem dL_plays_567 : decode cL_plays 567 = .ok (.aload_n 3, 1) := by decide +kernel
theorem dL_plays_568 : decode cL_plays 568 = .ok (.bipush 7, 2) := by decide +kernel
theorem dL_plays_570 : decode cL_plays 570 = .ok (.dup2, 1) := by decide +kernel
theorem dL_plays_571 : decode cL_plays 571 = .ok (.iaload, 1) := by decide +kernel
