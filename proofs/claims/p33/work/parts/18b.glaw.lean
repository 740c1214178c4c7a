set_option maxRecDepth 20000 in
theorem ggL_law_L_isDay_0 : GoodIn wsL_law [Cond.code yL_isDay cL_isDay 7 (some .boolean)] := goodIn_r _ [362] (by decide +kernel) (by decide +kernel)
set_option maxRecDepth 20000 in
theorem ggL_law_L_isDay_r1 : GoodIn wsL_law wsL_isDay_r1 := goodIn_r _ [86, 87, 88, 2, 89, 12, 90, 91, 92, 93, 94, 95, 96, 97, 98, 99, 100, 11, 101, 25, 102, 26, 30, 103] (by decide +kernel) (by decide +kernel)
set_option maxRecDepth 20000 in
theorem ggL_law_L_isDay_r2 : GoodIn wsL_law wsL_isDay_r2 := goodIn_r _ [34, 104, 105, 106, 107, 29, 108, 47, 109, 110, 111, 112, 50, 113, 114, 115, 116, 49, 117, 118, 119, 120, 121, 122] (by decide +kernel) (by decide +kernel)
set_option maxRecDepth 20000 in
theorem ggL_law_L_isDay_r3 : GoodIn wsL_law wsL_isDay_r3 := goodIn_r _ [123, 124, 125, 126, 127, 52, 128, 129, 130, 131, 132, 133, 134, 135, 136, 137, 138, 139, 140, 141, 142, 143, 144, 145] (by decide +kernel) (by decide +kernel)
set_option maxRecDepth 20000 in
theorem ggL_law_L_isDay_r4 : GoodIn wsL_law wsL_isDay_r4 := goodIn_r _ [146, 147, 148, 149, 150, 151, 152, 153, 154, 155, 156, 157, 158, 159, 160, 51, 48, 161, 162, 163, 164, 165, 166, 167] (by decide +kernel) (by decide +kernel)
set_option maxRecDepth 20000 in
theorem ggL_law_L_isDay_r5 : GoodIn wsL_law wsL_isDay_r5 := goodIn_r _ [168, 24, 169, 40, 41, 170, 171, 172, 33, 173, 57, 58, 174, 175, 176, 177, 59, 60, 61, 295, 296, 297, 298, 272] (by decide +kernel) (by decide +kernel)
set_option maxRecDepth 20000 in
theorem ggL_law_L_isDay_r6 : GoodIn wsL_law wsL_isDay_r6 := goodIn_r _ [273, 241, 242, 243, 244, 245, 246, 247, 248, 299, 300, 301, 302, 53, 363, 364, 76, 365, 366, 367, 368, 369, 370, 371] (by decide +kernel) (by decide +kernel)
set_option maxRecDepth 20000 in
theorem ggL_law_L_isDay_r7 : GoodIn wsL_law wsL_isDay_r7 := goodIn_r _ [372, 373, 374, 375, 376, 377, 378, 379, 380, 381, 382, 383, 384, 385, 386, 387, 388, 389, 227, 390, 391, 392, 393, 235] (by decide +kernel) (by decide +kernel)
set_option maxRecDepth 20000 in
theorem ggL_law_L_isDay_r8 : GoodIn wsL_law wsL_isDay_r8 := goodIn_r _ [236, 237, 238, 239, 240, 182, 183, 249, 250, 251, 252, 253, 254, 255, 256, 257, 394, 395, 396, 397, 398, 399, 400, 401] (by decide +kernel) (by decide +kernel)
set_option maxRecDepth 20000 in
theorem ggL_law_L_isDay_r9 : GoodIn wsL_law wsL_isDay_r9 := goodIn_r _ [402, 403, 404, 405, 406, 407, 408, 409, 410, 411, 412, 413, 414, 415, 416, 417, 418, 419, 420] (by decide +kernel) (by decide +kernel)
set_option maxRecDepth 20000 in
theorem ggL_law_L_isDay_wsX50 : GoodIn wsL_law wsX50 := goodIn_r _ [517, 518, 519, 520] (by decide +kernel) (by decide +kernel)
set_option maxRecDepth 20000 in
theorem ggL_law_L_isDay_wsX00 : GoodIn wsL_law wsX00 := goodIn_r _ [521, 522, 523, 524] (by decide +kernel) (by decide +kernel)
set_option maxRecDepth 20000 in
theorem ggL_law_L_isDay_wsX40 : GoodIn wsL_law wsX40 := goodIn_r _ [532, 533, 534, 535, 536] (by decide +kernel) (by decide +kernel)
set_option maxRecDepth 20000 in
theorem ggL_law_L_isDay_wsX30 : GoodIn wsL_law wsX30 := goodIn_r _ [537, 538, 539, 540, 541, 542, 543] (by decide +kernel) (by decide +kernel)
set_option maxRecDepth 20000 in
theorem ggL_law_L_isDay_wsX20 : GoodIn wsL_law wsX20 := goodIn_r _ [544, 545, 546, 547, 548, 549] (by decide +kernel) (by decide +kernel)
set_option maxRecDepth 20000 in
theorem ggL_law_L_isDay : GoodIn wsL_law wsL_isDay := goodIn_ca (goodIn_ca (goodIn_cc ggL_law_L_isDay_0 (goodIn_app (goodIn_app (goodIn_app (goodIn_app (goodIn_app (goodIn_app ggL_law_L_isDay_r1 (goodIn_app ggL_law_L_isDay_r2 (goodIn_app ggL_law_L_isDay_r3 (goodIn_app ggL_law_L_isDay_r4 (goodIn_app ggL_law_L_isDay_r5 (goodIn_app ggL_law_L_isDay_r6 (goodIn_app ggL_law_L_isDay_r7 (goodIn_app ggL_law_L_isDay_r8 ggL_law_L_isDay_r9)))))))) ggL_law_L_isDay_wsX50) ggL_law_L_isDay_wsX00) ggL_law_L_isDay_wsX40) ggL_law_L_isDay_wsX30) ggL_law_L_isDay_wsX20)) (goodIn_sub (fun _ h => List.mem_append_left _ (List.mem_append_left _ (List.mem_append_right _ h))) (by decide +kernel))) (goodIn_sub (fun _ h => List.mem_append_right _ h) (by decide +kernel))
set_option maxRecDepth 20000 in
theorem gL_law_L_isDay : GoodIn wsL_law (va_wsS RL 117 yL_isDay wsL_isDay) := goodIn_app (goodIn_of _ (by decide +kernel)) ggL_law_L_isDay
set_option maxRecDepth 20000 in
theorem ggL_law_X5_value_0 : GoodIn wsL_law [Cond.code yX5_value cX5_value 2 (some .int)] := goodIn_r _ [89] (by decide +kernel) (by decide +kernel)
set_option maxRecDepth 20000 in
theorem ggL_law_X5_value_r1 : GoodIn wsL_law wsX5_value_r1 := goodIn_r _ [12, 90, 91, 2, 92, 93, 94, 95, 96, 97, 98, 99, 100, 11, 101, 25, 102, 26, 30, 103, 34, 104, 105, 106] (by decide +kernel) (by decide +kernel)
set_option maxRecDepth 20000 in
theorem ggL_law_X5_value_r2 : GoodIn wsL_law wsX5_value_r2 := goodIn_r _ [107, 29, 108, 47, 109, 110, 111, 112, 50, 113, 114, 115, 116, 49, 117, 118, 119, 120, 121, 122, 123, 124, 125, 126] (by decide +kernel) (by decide +kernel)
set_option maxRecDepth 20000 in
theorem ggL_law_X5_value_r3 : GoodIn wsL_law wsX5_value_r3 := goodIn_r _ [127, 52, 128, 129, 130, 131, 132, 133, 134, 135, 136, 137, 138, 139, 140, 141, 142, 143, 144, 145, 146, 147, 148, 149] (by decide +kernel) (by decide +kernel)
set_option maxRecDepth 20000 in
theorem ggL_law_X5_value_r4 : GoodIn wsL_law wsX5_value_r4 := goodIn_r _ [150, 151, 152, 153, 154, 155, 156, 157, 158, 159, 160, 51, 48, 161, 162, 163, 164, 165, 166, 167, 168, 24, 169, 40] (by decide +kernel) (by decide +kernel)
set_option maxRecDepth 20000 in
theorem ggL_law_X5_value_r5 : GoodIn wsL_law wsX5_value_r5 := goodIn_r _ [41, 170, 171, 172, 33, 173, 57, 58, 174, 175, 176, 177, 59, 60, 61] (by decide +kernel) (by decide +kernel)
set_option maxRecDepth 20000 in
theorem ggL_law_X5_value_wsX50 : GoodIn wsL_law wsX50 := goodIn_r _ [517, 518, 519, 520] (by decide +kernel) (by decide +kernel)
set_option maxRecDepth 20000 in
theorem ggL_law_X5_value_wsX00 : GoodIn wsL_law wsX00 := goodIn_r _ [521, 522, 523, 524] (by decide +kernel) (by decide +kernel)
set_option maxRecDepth 20000 in
theorem ggL_law_X5_value_wsX40 : GoodIn wsL_law wsX40 := goodIn_r _ [532, 533, 534, 535, 536] (by decide +kernel) (by decide +kernel)
set_option maxRecDepth 20000 in
theorem ggL_law_X5_value_wsX30 : GoodIn wsL_law wsX30 := goodIn_r _ [537, 538, 539, 540, 541, 542, 543] (by decide +kernel) (by decide +kernel)
set_option maxRecDepth 20000 in
theorem ggL_law_X5_value_wsX20 : GoodIn wsL_law wsX20 := goodIn_r _ [544, 545, 546, 547, 548, 549] (by decide +kernel) (by decide +kernel)
set_option maxRecDepth 20000 in
theorem ggL_law_X5_value : GoodIn wsL_law wsX5_value := goodIn_ca (goodIn_cc ggL_law_X5_value_0 (goodIn_app (goodIn_app (goodIn_app (goodIn_app (goodIn_app (goodIn_app ggL_law_X5_value_r1 (goodIn_app ggL_law_X5_value_r2 (goodIn_app ggL_law_X5_value_r3 (goodIn_app ggL_law_X5_value_r4 ggL_law_X5_value_r5)))) ggL_law_X5_value_wsX50) ggL_law_X5_value_wsX00) ggL_law_X5_value_wsX40) ggL_law_X5_value_wsX30) ggL_law_X5_value_wsX20)) (goodIn_sub (fun _ h => List.mem_append_left _ (List.mem_append_left _ (List.mem_append_right _ h))) (by decide +kernel))
set_option maxRecDepth 20000 in
theorem gL_law_X5_value : GoodIn wsL_law (wsV RL 9 RX5 yX5_value wsX5_value) := goodIn_app (goodIn_of _ (by decide +kernel)) ggL_law_X5_value
set_option maxRecDepth 20000 in
theorem ggL_law_X5_costs_0 : GoodIn wsL_law [Cond.code yX5_costs cX5_costs 3 (some .int)] := goodIn_r _ [424] (by decide +kernel) (by decide +kernel)
set_option maxRecDepth 20000 in
theorem ggL_law_X5_costs_r1 : GoodIn wsL_law wsX5_costs_r1 := goodIn_r _ [12, 425, 426, 2, 427, 374, 375, 376, 90, 91, 92, 93, 94, 95, 96, 97, 428, 429, 430, 11, 431, 432, 433, 134] (by decide +kernel) (by decide +kernel)
set_option maxRecDepth 20000 in
theorem ggL_law_X5_costs_r2 : GoodIn wsL_law wsX5_costs_r2 := goodIn_r _ [434, 132, 133, 135, 136, 137, 138, 139, 25, 102, 140, 141, 30, 103, 142, 34, 104, 143, 144, 145, 146, 147, 435, 436] (by decide +kernel) (by decide +kernel)
set_option maxRecDepth 20000 in
theorem ggL_law_X5_costs_r3 : GoodIn wsL_law wsX5_costs_r3 := goodIn_r _ [437, 438, 156, 157, 158, 159, 29, 160, 51, 50, 48, 109, 110, 111, 112, 439, 440, 441, 442, 165, 26, 166, 167, 168] (by decide +kernel) (by decide +kernel)
set_option maxRecDepth 20000 in
theorem ggL_law_X5_costs_r4 : GoodIn wsL_law wsX5_costs_r4 := goodIn_r _ [24, 169, 40, 41, 235, 236, 443, 444, 445, 33, 446, 57, 58, 62, 174, 175, 176, 177, 59, 60, 61] (by decide +kernel) (by decide +kernel)
set_option maxRecDepth 20000 in
theorem ggL_law_X5_costs_wsX50 : GoodIn wsL_law wsX50 := goodIn_r _ [517, 518, 519, 520] (by decide +kernel) (by decide +kernel)
set_option maxRecDepth 20000 in
theorem ggL_law_X5_costs_wsX00 : GoodIn wsL_law wsX00 := goodIn_r _ [521, 522, 523, 524] (by decide +kernel) (by decide +kernel)
set_option maxRecDepth 20000 in
theorem ggL_law_X5_costs_wsX40 : GoodIn wsL_law wsX40 := goodIn_r _ [532, 533, 534, 535, 536] (by decide +kernel) (by decide +kernel)
set_option maxRecDepth 20000 in
theorem ggL_law_X5_costs_wsX30 : GoodIn wsL_law wsX30 := goodIn_r _ [537, 538, 539, 540, 541, 542, 543] (by decide +kernel) (by decide +kernel)
set_option maxRecDepth 20000 in
theorem ggL_law_X5_costs_wsX20 : GoodIn wsL_law wsX20 := goodIn_r _ [544, 545, 546, 547, 548, 549] (by decide +kernel) (by decide +kernel)
set_option maxRecDepth 20000 in
theorem ggL_law_X5_costs : GoodIn wsL_law wsX5_costs := goodIn_ca (goodIn_cc ggL_law_X5_costs_0 (goodIn_app (goodIn_app (goodIn_app (goodIn_app (goodIn_app (goodIn_app ggL_law_X5_costs_r1 (goodIn_app ggL_law_X5_costs_r2 (goodIn_app ggL_law_X5_costs_r3 ggL_law_X5_costs_r4))) ggL_law_X5_costs_wsX50) ggL_law_X5_costs_wsX00) ggL_law_X5_costs_wsX40) ggL_law_X5_costs_wsX30) ggL_law_X5_costs_wsX20)) (goodIn_sub (fun _ h => List.mem_append_left _ (List.mem_append_left _ (List.mem_append_right _ h))) (by decide +kernel))
set_option maxRecDepth 20000 in
theorem gL_law_X5_costs : GoodIn wsL_law (wsV RL 102 RX5 yX5_costs wsX5_costs) := goodIn_app (goodIn_of _ (by decide +kernel)) ggL_law_X5_costs
set_option maxRecDepth 20000 in
theorem ggL_law_L_isFirst_0 : GoodIn wsL_law [Cond.code yL_isFirst cL_isFirst 5 (some .boolean)] := goodIn_r _ [449] (by decide +kernel) (by decide +kernel)
set_option maxRecDepth 20000 in
theorem ggL_law_L_isFirst_r1 : GoodIn wsL_law wsL_isFirst_r1 := goodIn_r _ [450, 451, 452, 2, 453, 12, 370, 371, 372, 373, 272, 273, 241, 242, 243, 244, 245, 246, 247, 248, 374, 375, 376, 90] (by decide +kernel) (by decide +kernel)
set_option maxRecDepth 20000 in
theorem ggL_law_L_isFirst_r2 : GoodIn wsL_law wsL_isFirst_r2 := goodIn_r _ [91, 92, 93, 94, 95, 96, 97, 454, 455, 456, 11, 457, 132, 133, 134, 135, 152, 153, 154, 155, 30, 156, 157, 158] (by decide +kernel) (by decide +kernel)
set_option maxRecDepth 20000 in
theorem ggL_law_L_isFirst_r3 : GoodIn wsL_law wsL_isFirst_r3 := goodIn_r _ [159, 29, 160, 51, 50, 48, 109, 110, 111, 112, 161, 162, 163, 164, 25, 165, 34, 166, 167, 168, 24, 169, 40, 41] (by decide +kernel) (by decide +kernel)
set_option maxRecDepth 20000 in
theorem ggL_law_L_isFirst_r4 : GoodIn wsL_law wsL_isFirst_r4 := goodIn_r _ [170, 171, 172, 33, 173, 57, 58, 174, 175, 176, 177, 59, 60, 61, 136, 137, 138, 139, 102, 140, 141, 103, 142, 104] (by decide +kernel) (by decide +kernel)
set_option maxRecDepth 20000 in
theorem ggL_law_L_isFirst_r5 : GoodIn wsL_law wsL_isFirst_r5 := goodIn_r _ [143, 144, 145, 146, 147, 366, 367, 368, 369, 377] (by decide +kernel) (by decide +kernel)
set_option maxRecDepth 20000 in
theorem ggL_law_L_isFirst_wsX50 : GoodIn wsL_law wsX50 := goodIn_r _ [517, 518, 519, 520] (by decide +kernel) (by decide +kernel)
set_option maxRecDepth 20000 in
theorem ggL_law_L_isFirst_wsX00 : GoodIn wsL_law wsX00 := goodIn_r _ [521, 522, 523, 524] (by decide +kernel) (by decide +kernel)
set_option maxRecDepth 20000 in
theorem ggL_law_L_isFirst_wsX30 : GoodIn wsL_law wsX30 := goodIn_r _ [537, 538, 539, 540, 541, 542, 543] (by decide +kernel) (by decide +kernel)
set_option maxRecDepth 20000 in
theorem ggL_law_L_isFirst_wsX40 : GoodIn wsL_law wsX40 := goodIn_r _ [532, 533, 534, 535, 536] (by decide +kernel) (by decide +kernel)
set_option maxRecDepth 20000 in
theorem ggL_law_L_isFirst_wsX20 : GoodIn wsL_law wsX20 := goodIn_r _ [544, 545, 546, 547, 548, 549] (by decide +kernel) (by decide +kernel)
set_option maxRecDepth 20000 in
theorem ggL_law_L_isFirst : GoodIn wsL_law wsL_isFirst := goodIn_ca (goodIn_ca (goodIn_cc ggL_law_L_isFirst_0 (goodIn_app (goodIn_app (goodIn_app (goodIn_app (goodIn_app (goodIn_app ggL_law_L_isFirst_r1 (goodIn_app ggL_law_L_isFirst_r2 (goodIn_app ggL_law_L_isFirst_r3 (goodIn_app ggL_law_L_isFirst_r4 ggL_law_L_isFirst_r5)))) ggL_law_L_isFirst_wsX50) ggL_law_L_isFirst_wsX00) ggL_law_L_isFirst_wsX30) ggL_law_L_isFirst_wsX40) ggL_law_L_isFirst_wsX20)) (goodIn_sub (fun _ h => List.mem_append_right _ h) (by decide +kernel))) (goodIn_sub (fun _ h => List.mem_append_left _ (List.mem_append_left _ (List.mem_append_right _ h))) (by decide +kernel))
set_option maxRecDepth 20000 in
theorem gL_law_L_isFirst : GoodIn wsL_law (va_wsS RL 121 yL_isFirst wsL_isFirst) := goodIn_app (goodIn_of _ (by decide +kernel)) ggL_law_L_isFirst
