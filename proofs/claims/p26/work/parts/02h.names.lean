/-! the law's words hold those of rigs, plays, asks -/
theorem ggc_rigs : GoodIn wsL_law [.code yL_rigs cL_rigs 14 (some .boolean)] := goodIn_sub (fun z hz => by rw [List.mem_singleton.mp hz]; exact List.mem_of_getElem? (i := 75) rfl) (by decide +kernel)
set_option maxRecDepth 20000 in
theorem gg_wsL_rigs_r1 : GoodIn wsL_law wsL_rigs_r1 := goodIn_r _ [3, 70, 71, 67, 72, 76, 77, 78, 79, 80, 81, 82, 83, 84, 2, 85, 86, 87, 88, 89, 18, 90, 91, 92] (by decide +kernel) (by decide +kernel)
set_option maxRecDepth 20000 in
theorem gg_wsL_rigs_r2 : GoodIn wsL_law wsL_rigs_r2 := goodIn_r _ [93, 94, 95, 17, 96, 97, 31, 32, 33, 98, 99, 100, 101, 102, 103, 104, 105, 106, 107, 108, 10, 109, 110, 111] (by decide +kernel) (by decide +kernel)
set_option maxRecDepth 20000 in
theorem gg_wsL_rigs_r3 : GoodIn wsL_law wsL_rigs_r3 := goodIn_r _ [112, 113, 114, 115, 30, 116, 117, 118, 119, 120, 121, 35, 34, 122, 123, 124, 125, 126, 127, 128, 37, 129, 130, 131] (by decide +kernel) (by decide +kernel)
set_option maxRecDepth 20000 in
theorem gg_wsL_rigs_r4 : GoodIn wsL_law wsL_rigs_r4 := goodIn_r _ [132, 133, 134, 135, 136, 137, 138, 139, 140, 141, 142, 11, 22, 143, 144, 145, 146, 147, 148, 149, 150, 151, 152, 153] (by decide +kernel) (by decide +kernel)
set_option maxRecDepth 20000 in
theorem gg_wsL_rigs_r5 : GoodIn wsL_law wsL_rigs_r5 := goodIn_r _ [154, 155, 26, 156, 25, 157, 158, 53, 54, 55, 56, 159, 160, 161, 162, 163, 164, 165, 166, 167, 168, 169, 170, 171] (by decide +kernel) (by decide +kernel)
set_option maxRecDepth 20000 in
theorem gg_wsL_rigs_r6 : GoodIn wsL_law wsL_rigs_r6 := goodIn_r _ [172, 173, 174, 175, 176, 177, 178, 179, 180, 181, 182, 183, 184, 185, 186, 187, 188, 189, 190, 191, 192, 193, 194, 195] (by decide +kernel) (by decide +kernel)
set_option maxRecDepth 20000 in
theorem gg_wsL_rigs_r7 : GoodIn wsL_law wsL_rigs_r7 := goodIn_r _ [196, 197, 198, 199, 200, 201, 202, 203, 204, 205, 206, 207, 14, 208, 209, 210, 61, 58, 60, 63, 62, 211, 212, 213] (by decide +kernel) (by decide +kernel)
set_option maxRecDepth 20000 in
theorem gg_wsL_rigs_r8 : GoodIn wsL_law wsL_rigs_r8 := goodIn_r _ [214, 215, 216, 217, 218, 219, 220, 221, 222, 223, 224, 225, 226, 227, 228, 229, 230, 231, 232, 233, 234, 235, 236, 237] (by decide +kernel) (by decide +kernel)
set_option maxRecDepth 20000 in
theorem gg_wsL_rigs_r9 : GoodIn wsL_law wsL_rigs_r9 := goodIn_r _ [238, 239, 240, 36, 241, 242, 243, 244, 245, 246, 247, 248, 249, 250, 251, 252, 253, 254, 255, 256, 257, 258, 259, 260] (by decide +kernel) (by decide +kernel)
set_option maxRecDepth 20000 in
theorem gg_wsL_rigs_r10 : GoodIn wsL_law wsL_rigs_r10 := goodIn_r _ [261, 262, 263, 264, 21, 265, 266, 267, 268, 269, 270, 45, 46, 271, 272, 273, 274, 275, 276, 277, 278, 279, 280, 12] (by decide +kernel) (by decide +kernel)
set_option maxRecDepth 20000 in
theorem gg_wsL_rigs_r11 : GoodIn wsL_law wsL_rigs_r11 := goodIn_r _ [281, 282, 283, 284, 285, 286, 287, 57, 288] (by decide +kernel) (by decide +kernel)
set_option maxRecDepth 20000 in
theorem ggL_law_L_rigs : GoodIn wsL_law wsL_rigs := goodIn_ca (goodIn_ca (goodIn_ca (goodIn_app ggc_rigs (goodIn_app (goodIn_app (goodIn_app (goodIn_app (goodIn_app gg_wsL_rigs_r1 (goodIn_app gg_wsL_rigs_r2 (goodIn_app gg_wsL_rigs_r3 (goodIn_app gg_wsL_rigs_r4 (goodIn_app gg_wsL_rigs_r5 (goodIn_app gg_wsL_rigs_r6 (goodIn_app gg_wsL_rigs_r7 (goodIn_app gg_wsL_rigs_r8 (goodIn_app gg_wsL_rigs_r9 (goodIn_app gg_wsL_rigs_r10 (gg_wsL_rigs_r11))))))))))) (goodIn_sub inlX3 (by decide +kernel))) (goodIn_sub inlX1 (by decide +kernel))) (goodIn_sub inlX0 (by decide +kernel))) (goodIn_sub inlX2 (by decide +kernel)))) (goodIn_sub (fun _ h => List.mem_append_left _ (List.mem_append_left _ (List.mem_append_right _ h))) (by decide +kernel))) (goodIn_sub (fun _ h => List.mem_append_left _ (List.mem_append_right _ h)) (by decide +kernel))) (goodIn_sub (fun _ h => List.mem_append_right _ h) (by decide +kernel))
set_option maxRecDepth 20000 in
theorem gL_law_L_rigs : GoodIn wsL_law (va_wsS RL 151 yL_rigs wsL_rigs) := goodIn_app (goodIn_of _ (by decide +kernel)) ggL_law_L_rigs

theorem ggc_plays : GoodIn wsL_law [.code yL_plays cL_plays 15 (some .boolean)] := goodIn_sub (fun z hz => by rw [List.mem_singleton.mp hz]; exact List.mem_of_getElem? (i := 291) rfl) (by decide +kernel)
set_option maxRecDepth 20000 in
theorem gg_wsL_plays_r1 : GoodIn wsL_law wsL_plays_r1 := goodIn_r _ [70, 71, 67, 72, 136, 137, 138, 80, 81, 139, 140, 141, 2, 142, 88, 89, 10, 11, 18, 22, 90, 91, 92, 93] (by decide +kernel) (by decide +kernel)
set_option maxRecDepth 20000 in
theorem gg_wsL_plays_r2 : GoodIn wsL_law wsL_plays_r2 := goodIn_r _ [94, 143, 144, 145, 146, 147, 148, 149, 150, 151, 152, 153, 154, 155, 26, 156, 25, 157, 158, 53, 54, 55, 56, 257] (by decide +kernel) (by decide +kernel)
set_option maxRecDepth 20000 in
theorem gg_wsL_plays_r3 : GoodIn wsL_law wsL_plays_r3 := goodIn_r _ [258, 259, 79, 260, 261, 262, 263, 105, 106, 107, 108, 86, 87, 264, 21, 265, 266, 267, 268, 269, 270, 45, 46, 271] (by decide +kernel) (by decide +kernel)
set_option maxRecDepth 20000 in
theorem gg_wsL_plays_r4 : GoodIn wsL_law wsL_plays_r4 := goodIn_r _ [272, 273, 274, 275, 276, 277, 278, 279, 280, 12, 281, 282, 283, 284, 14, 285, 286, 287, 57, 288, 292, 293, 294, 295] (by decide +kernel) (by decide +kernel)
set_option maxRecDepth 20000 in
theorem gg_wsL_plays_r5 : GoodIn wsL_law wsL_plays_r5 := goodIn_r _ [296, 297, 298, 299, 300, 301, 302, 303, 304, 59, 305, 306, 307, 308, 62, 63, 61, 60, 58, 309, 208, 209, 210, 211] (by decide +kernel) (by decide +kernel)
set_option maxRecDepth 20000 in
theorem gg_wsL_plays_r6 : GoodIn wsL_law wsL_plays_r6 := goodIn_r _ [212, 213, 214, 215, 216, 217, 310, 311, 312, 313, 314, 315, 316, 317, 318, 319, 320, 321, 322, 323, 324, 325, 326, 327] (by decide +kernel) (by decide +kernel)
set_option maxRecDepth 20000 in
theorem gg_wsL_plays_r7 : GoodIn wsL_law wsL_plays_r7 := goodIn_r _ [328, 329, 330, 331, 332, 333, 204, 205, 206, 207, 175, 17, 176, 177, 35, 334, 335, 336, 337, 338, 339, 340, 341, 342] (by decide +kernel) (by decide +kernel)
set_option maxRecDepth 20000 in
theorem gg_wsL_plays_r8 : GoodIn wsL_law wsL_plays_r8 := goodIn_r _ [343, 344, 345, 346, 347, 64, 39, 40, 41, 168, 169, 170, 171, 172, 173, 174, 178, 179, 180, 181, 109, 110, 111, 112] (by decide +kernel) (by decide +kernel)
set_option maxRecDepth 20000 in
theorem gg_wsL_plays_r9 : GoodIn wsL_law wsL_plays_r9 := goodIn_r _ [113, 114, 115, 31, 30, 182, 183, 184, 37, 185, 186, 187, 188, 189, 190, 191, 192, 193, 194, 195, 196, 197, 198, 199] (by decide +kernel) (by decide +kernel)
set_option maxRecDepth 20000 in
theorem gg_wsL_plays_r10 : GoodIn wsL_law wsL_plays_r10 := goodIn_r _ [200, 201, 202, 203, 218, 219, 220, 221, 222, 223, 224, 225, 226, 227, 228, 229, 230, 231, 232, 233] (by decide +kernel) (by decide +kernel)
set_option maxRecDepth 20000 in
theorem ggL_law_L_plays : GoodIn wsL_law wsL_plays := goodIn_ca (goodIn_ca (goodIn_ca (goodIn_app ggc_plays (goodIn_app (goodIn_app (goodIn_app (goodIn_app (goodIn_app gg_wsL_plays_r1 (goodIn_app gg_wsL_plays_r2 (goodIn_app gg_wsL_plays_r3 (goodIn_app gg_wsL_plays_r4 (goodIn_app gg_wsL_plays_r5 (goodIn_app gg_wsL_plays_r6 (goodIn_app gg_wsL_plays_r7 (goodIn_app gg_wsL_plays_r8 (goodIn_app gg_wsL_plays_r9 (gg_wsL_plays_r10)))))))))) (goodIn_sub inlX3 (by decide +kernel))) (goodIn_sub inlX1 (by decide +kernel))) (goodIn_sub inlX0 (by decide +kernel))) (goodIn_sub inlX2 (by decide +kernel)))) (goodIn_sub (fun _ h => List.mem_append_left _ (List.mem_append_right _ h)) (by decide +kernel))) (goodIn_sub (fun _ h => List.mem_append_right _ h) (by decide +kernel))) (goodIn_sub (fun _ h => List.mem_append_left _ (List.mem_append_left _ (List.mem_append_right _ h))) (by decide +kernel))
set_option maxRecDepth 20000 in
theorem gL_law_L_plays : GoodIn wsL_law (va_wsS RL 155 yL_plays wsL_plays) := goodIn_app (goodIn_of _ (by decide +kernel)) ggL_law_L_plays

theorem ggc_asks : GoodIn wsL_law [.code yL_asks cL_asks 15 (some .boolean)] := goodIn_sub (fun z hz => by rw [List.mem_singleton.mp hz]; exact List.mem_of_getElem? (i := 350) rfl) (by decide +kernel)
set_option maxRecDepth 20000 in
theorem gg_wsL_asks_r1 : GoodIn wsL_law wsL_asks_r1 := goodIn_r _ [3, 310, 311, 67, 312, 313, 314, 315, 316, 317, 318, 168, 169, 170, 79, 171, 172, 173, 2, 174, 18, 105, 106, 107] (by decide +kernel) (by decide +kernel)
set_option maxRecDepth 20000 in
theorem gg_wsL_asks_r2 : GoodIn wsL_law wsL_asks_r2 := goodIn_r _ [108, 86, 87, 10, 175, 17, 176, 177, 35, 178, 179, 180, 181, 109, 110, 111, 112, 113, 114, 115, 31, 30, 182, 183] (by decide +kernel) (by decide +kernel)
set_option maxRecDepth 20000 in
theorem gg_wsL_asks_r3 : GoodIn wsL_law wsL_asks_r3 := goodIn_r _ [184, 37, 185, 186, 187, 188, 189, 190, 191, 192, 193, 194, 195, 196, 22, 197, 198, 199, 200, 201, 202, 203, 204, 205] (by decide +kernel) (by decide +kernel)
set_option maxRecDepth 20000 in
theorem gg_wsL_asks_r4 : GoodIn wsL_law wsL_asks_r4 := goodIn_r _ [206, 207, 14, 26, 208, 25, 209, 210, 61, 53, 58, 60, 54, 63, 62, 55, 211, 212, 213, 214, 215, 216, 217, 218] (by decide +kernel) (by decide +kernel)
set_option maxRecDepth 20000 in
theorem gg_wsL_asks_r5 : GoodIn wsL_law wsL_asks_r5 := goodIn_r _ [219, 220, 221, 222, 223, 224, 225, 226, 227, 228, 229, 230, 231, 232, 233, 70, 71, 72, 351, 352, 353, 354, 12, 254] (by decide +kernel) (by decide +kernel)
set_option maxRecDepth 20000 in
theorem gg_wsL_asks_r6 : GoodIn wsL_law wsL_asks_r6 := goodIn_r _ [255, 256, 319, 320, 321, 80, 322, 323, 324, 325, 90, 91, 92, 93, 94, 326, 327, 328, 59, 56, 329, 302, 303, 304] (by decide +kernel) (by decide +kernel)
set_option maxRecDepth 20000 in
theorem gg_wsL_asks_r7 : GoodIn wsL_law wsL_asks_r7 := goodIn_r _ [305, 306, 307, 308, 57, 288, 275, 276, 309, 330, 331, 332, 333, 334, 335, 336, 337, 338, 21, 339, 340, 267, 268, 269] (by decide +kernel) (by decide +kernel)
set_option maxRecDepth 20000 in
theorem gg_wsL_asks_r8 : GoodIn wsL_law wsL_asks_r8 := goodIn_r _ [270, 45, 46] (by decide +kernel) (by decide +kernel)
set_option maxRecDepth 20000 in
theorem ggL_law_L_asks : GoodIn wsL_law wsL_asks := goodIn_ca (goodIn_ca (goodIn_app ggc_asks (goodIn_app (goodIn_app (goodIn_app (goodIn_app (goodIn_app gg_wsL_asks_r1 (goodIn_app gg_wsL_asks_r2 (goodIn_app gg_wsL_asks_r3 (goodIn_app gg_wsL_asks_r4 (goodIn_app gg_wsL_asks_r5 (goodIn_app gg_wsL_asks_r6 (goodIn_app gg_wsL_asks_r7 (gg_wsL_asks_r8)))))))) (goodIn_sub inlX3 (by decide +kernel))) (goodIn_sub inlX1 (by decide +kernel))) (goodIn_sub inlX0 (by decide +kernel))) (goodIn_sub inlX2 (by decide +kernel)))) (goodIn_sub (fun _ h => List.mem_append_left _ (List.mem_append_left _ (List.mem_append_right _ h))) (by decide +kernel))) (goodIn_sub (fun _ h => List.mem_append_right _ h) (by decide +kernel))
set_option maxRecDepth 20000 in
theorem gL_law_L_asks : GoodIn wsL_law (va_wsS RL 159 yL_asks wsL_asks) := goodIn_app (goodIn_of _ (by decide +kernel)) ggL_law_L_asks

