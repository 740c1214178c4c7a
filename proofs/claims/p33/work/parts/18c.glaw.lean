set_option maxRecDepth 20000 in
theorem ggL_law_L_isMove_0 : GoodIn wsL_law [Cond.code yL_isMove cL_isMove 8 (some .boolean)] := goodIn_r _ [460] (by decide +kernel) (by decide +kernel)
set_option maxRecDepth 20000 in
theorem ggL_law_L_isMove_r1 : GoodIn wsL_law wsL_isMove_r1 := goodIn_r _ [461, 462, 463, 2, 464, 12, 272, 273, 182, 183, 241, 242, 243, 244, 245, 246, 247, 248, 374, 375, 376, 90, 91, 92] (by decide +kernel) (by decide +kernel)
set_option maxRecDepth 20000 in
theorem ggL_law_L_isMove_r2 : GoodIn wsL_law wsL_isMove_r2 := goodIn_r _ [93, 94, 95, 96, 97, 465, 466, 467, 11, 468, 30, 156, 469, 470, 471, 472, 473, 132, 133, 134, 135, 161, 162, 163] (by decide +kernel) (by decide +kernel)
set_option maxRecDepth 20000 in
theorem ggL_law_L_isMove_r3 : GoodIn wsL_law wsL_isMove_r3 := goodIn_r _ [164, 25, 165, 34, 166, 167, 168, 24, 169, 40, 41, 170, 171, 172, 33, 173, 57, 58, 174, 175, 176, 177, 59, 60] (by decide +kernel) (by decide +kernel)
set_option maxRecDepth 20000 in
theorem ggL_law_L_isMove_r4 : GoodIn wsL_law wsL_isMove_r4 := goodIn_r _ [61, 136, 137, 138, 139, 102, 140, 141, 103, 142, 104, 143, 144, 145, 146, 147, 474, 475, 476, 477, 282, 283, 284, 285] (by decide +kernel) (by decide +kernel)
set_option maxRecDepth 20000 in
theorem ggL_law_L_isMove_r5 : GoodIn wsL_law wsL_isMove_r5 := goodIn_r _ [286, 287, 288, 289, 290, 291, 292, 293, 187, 188, 189, 190, 191, 192, 14, 13, 193, 194, 195, 196, 197, 198, 199, 200] (by decide +kernel) (by decide +kernel)
set_option maxRecDepth 20000 in
theorem ggL_law_L_isMove_r6 : GoodIn wsL_law wsL_isMove_r6 := goodIn_r _ [26, 201, 202, 203, 204, 38, 205, 206, 207, 208, 42, 43, 209, 210, 211, 29, 212, 47, 48, 213, 49, 50, 51, 52] (by decide +kernel) (by decide +kernel)
set_option maxRecDepth 20000 in
theorem ggL_law_L_isMove_r7 : GoodIn wsL_law wsL_isMove_r7 := goodIn_r _ [53, 214, 215, 216, 217, 218, 62, 294, 279, 280, 281, 450, 451, 452, 453, 370, 371, 372, 373, 454, 455, 456, 457, 152] (by decide +kernel) (by decide +kernel)
set_option maxRecDepth 20000 in
theorem ggL_law_L_isMove_r8 : GoodIn wsL_law wsL_isMove_r8 := goodIn_r _ [153, 154, 155, 157, 158, 159, 160, 109, 110, 111, 112, 478, 479, 480, 481, 184, 185, 186] (by decide +kernel) (by decide +kernel)
set_option maxRecDepth 20000 in
theorem ggL_law_L_isMove_wsX50 : GoodIn wsL_law wsX50 := goodIn_r _ [517, 518, 519, 520] (by decide +kernel) (by decide +kernel)
set_option maxRecDepth 20000 in
theorem ggL_law_L_isMove_wsX00 : GoodIn wsL_law wsX00 := goodIn_r _ [521, 522, 523, 524] (by decide +kernel) (by decide +kernel)
set_option maxRecDepth 20000 in
theorem ggL_law_L_isMove_wsX30 : GoodIn wsL_law wsX30 := goodIn_r _ [537, 538, 539, 540, 541, 542, 543] (by decide +kernel) (by decide +kernel)
set_option maxRecDepth 20000 in
theorem ggL_law_L_isMove_wsX40 : GoodIn wsL_law wsX40 := goodIn_r _ [532, 533, 534, 535, 536] (by decide +kernel) (by decide +kernel)
set_option maxRecDepth 20000 in
theorem ggL_law_L_isMove_wsX20 : GoodIn wsL_law wsX20 := goodIn_r _ [544, 545, 546, 547, 548, 549] (by decide +kernel) (by decide +kernel)
set_option maxRecDepth 20000 in
theorem ggL_law_L_isMove : GoodIn wsL_law wsL_isMove := goodIn_ca (goodIn_ca (goodIn_ca (goodIn_cc ggL_law_L_isMove_0 (goodIn_app (goodIn_app (goodIn_app (goodIn_app (goodIn_app (goodIn_app ggL_law_L_isMove_r1 (goodIn_app ggL_law_L_isMove_r2 (goodIn_app ggL_law_L_isMove_r3 (goodIn_app ggL_law_L_isMove_r4 (goodIn_app ggL_law_L_isMove_r5 (goodIn_app ggL_law_L_isMove_r6 (goodIn_app ggL_law_L_isMove_r7 ggL_law_L_isMove_r8))))))) ggL_law_L_isMove_wsX50) ggL_law_L_isMove_wsX00) ggL_law_L_isMove_wsX30) ggL_law_L_isMove_wsX40) ggL_law_L_isMove_wsX20)) (goodIn_sub (fun _ h => List.mem_append_right _ h) (by decide +kernel))) (goodIn_sub (fun _ h => List.mem_append_left _ (List.mem_append_left _ (List.mem_append_right _ h))) (by decide +kernel))) (goodIn_sub (fun _ h => List.mem_append_left _ (List.mem_append_right _ h)) (by decide +kernel))
set_option maxRecDepth 20000 in
theorem gL_law_L_isMove : GoodIn wsL_law (va_wsS RL 124 yL_isMove wsL_isMove) := goodIn_app (goodIn_of _ (by decide +kernel)) ggL_law_L_isMove
set_option maxRecDepth 20000 in
theorem ggL_law_L_isVersion_0 : GoodIn wsL_law [Cond.code yL_isVersion cL_isVersion 12 (some .boolean)] := goodIn_r _ [484] (by decide +kernel) (by decide +kernel)
set_option maxRecDepth 20000 in
theorem ggL_law_L_isVersion_r1 : GoodIn wsL_law wsL_isVersion_r1 := goodIn_r _ [485, 486, 487, 2, 488, 12, 272, 273, 489, 241, 242, 243, 244, 245, 246, 247, 248, 425, 426, 427, 374, 375, 376, 90] (by decide +kernel) (by decide +kernel)
set_option maxRecDepth 20000 in
theorem ggL_law_L_isVersion_r2 : GoodIn wsL_law wsL_isVersion_r2 := goodIn_r _ [91, 92, 93, 94, 95, 96, 97, 490, 491, 492, 11, 493, 25, 102, 470, 471, 472, 473, 132, 133, 134, 135, 161, 162] (by decide +kernel) (by decide +kernel)
set_option maxRecDepth 20000 in
theorem ggL_law_L_isVersion_r3 : GoodIn wsL_law wsL_isVersion_r3 := goodIn_r _ [163, 164, 165, 34, 166, 167, 168, 24, 169, 40, 41, 170, 171, 172, 33, 173, 57, 58, 174, 175, 176, 177, 59, 60] (by decide +kernel) (by decide +kernel)
set_option maxRecDepth 20000 in
theorem ggL_law_L_isVersion_r4 : GoodIn wsL_law wsL_isVersion_r4 := goodIn_r _ [61, 136, 137, 138, 139, 140, 141, 30, 103, 142, 104, 143, 144, 145, 146, 147, 494, 495, 496, 497, 432, 433, 434, 439] (by decide +kernel) (by decide +kernel)
set_option maxRecDepth 20000 in
theorem ggL_law_L_isVersion_r5 : GoodIn wsL_law wsL_isVersion_r5 := goodIn_r _ [440, 441, 442, 26, 235, 236, 443, 444, 445, 446, 62, 498, 499, 500, 501, 370, 371, 372, 373, 502, 503, 504, 505, 408] (by decide +kernel) (by decide +kernel)
set_option maxRecDepth 20000 in
theorem ggL_law_L_isVersion_r6 : GoodIn wsL_law wsL_isVersion_r6 := goodIn_r _ [118, 119, 120, 121, 122, 123, 282, 283, 284, 285, 286, 287, 288, 289, 290, 291, 292, 293, 187, 188, 189, 190, 191, 192] (by decide +kernel) (by decide +kernel)
set_option maxRecDepth 20000 in
theorem ggL_law_L_isVersion_r7 : GoodIn wsL_law wsL_isVersion_r7 := goodIn_r _ [14, 13, 193, 194, 195, 196, 197, 198, 199, 200, 201, 202, 203, 204, 38, 205, 206, 207, 208, 42, 43, 209, 210, 211] (by decide +kernel) (by decide +kernel)
set_option maxRecDepth 20000 in
theorem ggL_law_L_isVersion_r8 : GoodIn wsL_law wsL_isVersion_r8 := goodIn_r _ [29, 212, 47, 48, 213, 49, 50, 51, 52, 53, 214, 215, 216, 217, 218, 294, 279, 280, 281, 450, 451, 452, 453, 454] (by decide +kernel) (by decide +kernel)
set_option maxRecDepth 20000 in
theorem ggL_law_L_isVersion_r9 : GoodIn wsL_law wsL_isVersion_r9 := goodIn_r _ [455, 456, 457, 152, 153, 154, 155, 156, 157, 158, 159, 160, 109, 110, 111, 112, 478, 479, 480, 481, 184, 185, 186, 86] (by decide +kernel) (by decide +kernel)
set_option maxRecDepth 20000 in
theorem ggL_law_L_isVersion_r10 : GoodIn wsL_law wsL_isVersion_r10 := goodIn_r _ [87, 88, 89, 98, 99, 100, 101, 105, 106, 107, 108, 113, 114, 115, 116, 117, 124, 125, 126, 127, 128, 129, 130, 131] (by decide +kernel) (by decide +kernel)
set_option maxRecDepth 20000 in
theorem ggL_law_L_isVersion_r11 : GoodIn wsL_law wsL_isVersion_r11 := goodIn_r _ [148, 149, 150, 151, 237, 238, 239, 240, 182, 183, 249, 250, 251, 252, 253, 254, 255, 256, 257, 366, 367, 368, 369, 377] (by decide +kernel) (by decide +kernel)
set_option maxRecDepth 20000 in
theorem ggL_law_L_isVersion_r12 : GoodIn wsL_law wsL_isVersion_r12 := goodIn_r _ [363, 364, 76, 365] (by decide +kernel) (by decide +kernel)
set_option maxRecDepth 20000 in
theorem ggL_law_L_isVersion_wsX50 : GoodIn wsL_law wsX50 := goodIn_r _ [517, 518, 519, 520] (by decide +kernel) (by decide +kernel)
set_option maxRecDepth 20000 in
theorem ggL_law_L_isVersion_wsX00 : GoodIn wsL_law wsX00 := goodIn_r _ [521, 522, 523, 524] (by decide +kernel) (by decide +kernel)
set_option maxRecDepth 20000 in
theorem ggL_law_L_isVersion_wsX30 : GoodIn wsL_law wsX30 := goodIn_r _ [537, 538, 539, 540, 541, 542, 543] (by decide +kernel) (by decide +kernel)
set_option maxRecDepth 20000 in
theorem ggL_law_L_isVersion_wsX40 : GoodIn wsL_law wsX40 := goodIn_r _ [532, 533, 534, 535, 536] (by decide +kernel) (by decide +kernel)
set_option maxRecDepth 20000 in
theorem ggL_law_L_isVersion_wsX20 : GoodIn wsL_law wsX20 := goodIn_r _ [544, 545, 546, 547, 548, 549] (by decide +kernel) (by decide +kernel)
set_option maxRecDepth 20000 in
theorem ggL_law_L_isVersion : GoodIn wsL_law wsL_isVersion := goodIn_ca (goodIn_ca (goodIn_ca (goodIn_cc ggL_law_L_isVersion_0 (goodIn_app (goodIn_app (goodIn_app (goodIn_app (goodIn_app (goodIn_app ggL_law_L_isVersion_r1 (goodIn_app ggL_law_L_isVersion_r2 (goodIn_app ggL_law_L_isVersion_r3 (goodIn_app ggL_law_L_isVersion_r4 (goodIn_app ggL_law_L_isVersion_r5 (goodIn_app ggL_law_L_isVersion_r6 (goodIn_app ggL_law_L_isVersion_r7 (goodIn_app ggL_law_L_isVersion_r8 (goodIn_app ggL_law_L_isVersion_r9 (goodIn_app ggL_law_L_isVersion_r10 (goodIn_app ggL_law_L_isVersion_r11 ggL_law_L_isVersion_r12))))))))))) ggL_law_L_isVersion_wsX50) ggL_law_L_isVersion_wsX00) ggL_law_L_isVersion_wsX30) ggL_law_L_isVersion_wsX40) ggL_law_L_isVersion_wsX20)) (goodIn_sub (fun _ h => List.mem_append_right _ h) (by decide +kernel))) (goodIn_sub (fun _ h => List.mem_append_left _ (List.mem_append_left _ (List.mem_append_right _ h))) (by decide +kernel))) (goodIn_sub (fun _ h => List.mem_append_left _ (List.mem_append_right _ h)) (by decide +kernel))
set_option maxRecDepth 20000 in
theorem gL_law_L_isVersion : GoodIn wsL_law (va_wsS RL 128 yL_isVersion wsL_isVersion) := goodIn_app (goodIn_of _ (by decide +kernel)) ggL_law_L_isVersion
