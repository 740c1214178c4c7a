set_option maxRecDepth 20000 in
theorem ggL_law_L_areAlike_0 : GoodIn wsL_law [Cond.code yL_areAlike cL_areAlike 5 (some .boolean)] := goodIn_r _ [508] (by decide +kernel) (by decide +kernel)
set_option maxRecDepth 20000 in
theorem ggL_law_L_areAlike_r1 : GoodIn wsL_law wsL_areAlike_r1 := goodIn_r _ [421, 422, 423, 2, 424, 12, 425, 426, 427, 374, 375, 376, 90, 91, 92, 93, 94, 95, 96, 97, 428, 429, 430, 11] (by decide +kernel) (by decide +kernel)
set_option maxRecDepth 20000 in
theorem ggL_law_L_areAlike_r2 : GoodIn wsL_law wsL_areAlike_r2 := goodIn_r _ [431, 432, 433, 134, 434, 132, 133, 135, 136, 137, 138, 139, 25, 102, 140, 141, 30, 103, 142, 34, 104, 143, 144, 145] (by decide +kernel) (by decide +kernel)
set_option maxRecDepth 20000 in
theorem ggL_law_L_areAlike_r3 : GoodIn wsL_law wsL_areAlike_r3 := goodIn_r _ [146, 147, 435, 436, 437, 438, 156, 157, 158, 159, 29, 160, 51, 50, 48, 109, 110, 111, 112, 439, 440, 441, 442, 165] (by decide +kernel) (by decide +kernel)
set_option maxRecDepth 20000 in
theorem ggL_law_L_areAlike_r4 : GoodIn wsL_law wsL_areAlike_r4 := goodIn_r _ [26, 166, 167, 168, 24, 169, 40, 41, 235, 236, 443, 444, 445, 33, 446, 57, 58, 62, 174, 175, 176, 177, 59, 60] (by decide +kernel) (by decide +kernel)
set_option maxRecDepth 20000 in
theorem ggL_law_L_areAlike_r5 : GoodIn wsL_law wsL_areAlike_r5 := goodIn_r _ [61, 86, 87, 88, 89, 98, 99, 100, 101, 105, 106, 107, 108, 47, 113, 114, 115, 116, 49, 117, 118, 119, 120, 121] (by decide +kernel) (by decide +kernel)
set_option maxRecDepth 20000 in
theorem ggL_law_L_areAlike_r6 : GoodIn wsL_law wsL_areAlike_r6 := goodIn_r _ [122, 123, 124, 125, 126, 127, 52, 128, 129, 130, 131, 148, 149, 150, 151, 152, 153, 154, 155, 161, 162, 163, 164, 170] (by decide +kernel) (by decide +kernel)
set_option maxRecDepth 20000 in
theorem ggL_law_L_areAlike_r7 : GoodIn wsL_law wsL_areAlike_r7 := goodIn_r _ [171, 172, 173, 237, 238, 239, 240, 182, 183, 241, 242, 243, 244, 245, 246, 247, 248, 249, 250, 251, 252, 253, 254, 255] (by decide +kernel) (by decide +kernel)
set_option maxRecDepth 20000 in
theorem ggL_law_L_areAlike_r8 : GoodIn wsL_law wsL_areAlike_r8 := goodIn_r _ [256, 257, 295, 296, 297, 298, 272, 273, 299, 300, 301, 302, 53, 509, 510, 511, 512, 338, 351, 513, 514, 515, 516] (by decide +kernel) (by decide +kernel)
set_option maxRecDepth 20000 in
theorem ggL_law_L_areAlike_wsX50 : GoodIn wsL_law wsX50 := goodIn_r _ [517, 518, 519, 520] (by decide +kernel) (by decide +kernel)
set_option maxRecDepth 20000 in
theorem ggL_law_L_areAlike_wsX00 : GoodIn wsL_law wsX00 := goodIn_r _ [521, 522, 523, 524] (by decide +kernel) (by decide +kernel)
set_option maxRecDepth 20000 in
theorem ggL_law_L_areAlike_wsX40 : GoodIn wsL_law wsX40 := goodIn_r _ [532, 533, 534, 535, 536] (by decide +kernel) (by decide +kernel)
set_option maxRecDepth 20000 in
theorem ggL_law_L_areAlike_wsX30 : GoodIn wsL_law wsX30 := goodIn_r _ [537, 538, 539, 540, 541, 542, 543] (by decide +kernel) (by decide +kernel)
set_option maxRecDepth 20000 in
theorem ggL_law_L_areAlike_wsX20 : GoodIn wsL_law wsX20 := goodIn_r _ [544, 545, 546, 547, 548, 549] (by decide +kernel) (by decide +kernel)
set_option maxRecDepth 20000 in
theorem ggL_law_L_areAlike : GoodIn wsL_law wsL_areAlike := goodIn_ca (goodIn_ca (goodIn_cc ggL_law_L_areAlike_0 (goodIn_app (goodIn_app (goodIn_app (goodIn_app (goodIn_app (goodIn_app ggL_law_L_areAlike_r1 (goodIn_app ggL_law_L_areAlike_r2 (goodIn_app ggL_law_L_areAlike_r3 (goodIn_app ggL_law_L_areAlike_r4 (goodIn_app ggL_law_L_areAlike_r5 (goodIn_app ggL_law_L_areAlike_r6 (goodIn_app ggL_law_L_areAlike_r7 ggL_law_L_areAlike_r8))))))) ggL_law_L_areAlike_wsX50) ggL_law_L_areAlike_wsX00) ggL_law_L_areAlike_wsX40) ggL_law_L_areAlike_wsX30) ggL_law_L_areAlike_wsX20)) (goodIn_sub (fun _ h => List.mem_append_left _ (List.mem_append_left _ (List.mem_append_right _ h))) (by decide +kernel))) (goodIn_sub (fun _ h => List.mem_append_right _ h) (by decide +kernel))
set_option maxRecDepth 20000 in
theorem gL_law_L_areAlike : GoodIn wsL_law (va_wsS RL 131 yL_areAlike wsL_areAlike) := goodIn_app (goodIn_of _ (by decide +kernel)) ggL_law_L_areAlike
