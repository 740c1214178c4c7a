theorem goodIn_cc {big a : List Cond} {c : Cond} (hc : GoodIn big [c]) (ha : GoodIn big a) : GoodIn big (c :: a) := fun w h => (List.mem_cons.mp h).elim (fun e => hc w (List.mem_cons.mpr (Or.inl e))) (ha w)
set_option maxRecDepth 20000 in
theorem ggL_law_X5_init_0 : GoodIn wsL_law [Cond.code yX5_init cX5_init 2 none] := goodIn_r _ [5] (by decide +kernel) (by decide +kernel)
set_option maxRecDepth 20000 in
theorem ggL_law_X5_init_r1 : GoodIn wsL_law wsX5_init_r1 := goodIn_r _ [6, 7, 8, 9, 10, 11, 12, 13, 14, 15, 16, 17, 18, 19, 20, 21, 22, 23, 24, 25, 26, 27, 28, 29] (by decide +kernel) (by decide +kernel)
set_option maxRecDepth 20000 in
theorem ggL_law_X5_init_r2 : GoodIn wsL_law wsX5_init_r2 := goodIn_r _ [30, 31, 32, 33, 34, 35, 36, 37, 38, 39, 40, 41, 42, 43, 44, 45, 46, 47, 48, 49, 50, 51, 52, 53] (by decide +kernel) (by decide +kernel)
set_option maxRecDepth 20000 in
theorem ggL_law_X5_init_r3 : GoodIn wsL_law wsX5_init_r3 := goodIn_r _ [54, 55, 56, 57, 58, 59, 60, 61, 62, 63, 64, 65, 66, 67, 68, 69, 70, 71, 72, 73] (by decide +kernel) (by decide +kernel)
set_option maxRecDepth 20000 in
theorem ggL_law_X5_init_wsX00 : GoodIn wsL_law wsX00 := goodIn_r _ [521, 522, 523, 524] (by decide +kernel) (by decide +kernel)
set_option maxRecDepth 20000 in
theorem ggL_law_X5_init_wsX50 : GoodIn wsL_law wsX50 := goodIn_r _ [517, 518, 519, 520] (by decide +kernel) (by decide +kernel)
set_option maxRecDepth 20000 in
theorem ggL_law_X5_init_wsX10 : GoodIn wsL_law wsX10 := goodIn_r _ [525, 526, 527, 528, 529, 530, 531] (by decide +kernel) (by decide +kernel)
set_option maxRecDepth 20000 in
theorem ggL_law_X5_init_wsX40 : GoodIn wsL_law wsX40 := goodIn_r _ [532, 533, 534, 535, 536] (by decide +kernel) (by decide +kernel)
set_option maxRecDepth 20000 in
theorem ggL_law_X5_init_wsX30 : GoodIn wsL_law wsX30 := goodIn_r _ [537, 538, 539, 540, 541, 542, 543] (by decide +kernel) (by decide +kernel)
set_option maxRecDepth 20000 in
theorem ggL_law_X5_init_wsX20 : GoodIn wsL_law wsX20 := goodIn_r _ [544, 545, 546, 547, 548, 549] (by decide +kernel) (by decide +kernel)
set_option maxRecDepth 20000 in
theorem ggL_law_X5_init : GoodIn wsL_law wsX5_init := (goodIn_cc ggL_law_X5_init_0 (goodIn_app (goodIn_app (goodIn_app (goodIn_app (goodIn_app (goodIn_app (goodIn_app ggL_law_X5_init_r1 (goodIn_app ggL_law_X5_init_r2 ggL_law_X5_init_r3)) ggL_law_X5_init_wsX00) ggL_law_X5_init_wsX50) ggL_law_X5_init_wsX10) ggL_law_X5_init_wsX40) ggL_law_X5_init_wsX30) ggL_law_X5_init_wsX20))
set_option maxRecDepth 20000 in
theorem gL_law_X5_init : GoodIn wsL_law (wsX5_init) := ggL_law_X5_init
set_option maxRecDepth 20000 in
theorem ggL_law_L_cell : GoodIn wsL_law wsL_cell := goodIn_r _ [77, 78] (by decide +kernel) (by decide +kernel)
set_option maxRecDepth 20000 in
theorem gL_law_L_cell : GoodIn wsL_law (va_wsS RL 109 yL_cell wsL_cell) := goodIn_app (goodIn_of _ (by decide +kernel)) ggL_law_L_cell
set_option maxRecDepth 20000 in
theorem ggL_law_L_low : GoodIn wsL_law wsL_low := goodIn_r _ [81, 82] (by decide +kernel) (by decide +kernel)
set_option maxRecDepth 20000 in
theorem gL_law_L_low : GoodIn wsL_law (va_wsS RL 15 yL_low wsL_low) := goodIn_app (goodIn_of _ (by decide +kernel)) ggL_law_L_low
set_option maxRecDepth 20000 in
theorem ggL_law_L_change_0 : GoodIn wsL_law [Cond.code yL_change cL_change 11 (some .int)] := goodIn_r _ [85] (by decide +kernel) (by decide +kernel)
set_option maxRecDepth 20000 in
theorem ggL_law_L_change_r1 : GoodIn wsL_law wsL_change_r1 := goodIn_r _ [86, 87, 88, 2, 89, 12, 90, 91, 92, 93, 94, 95, 96, 97, 98, 99, 100, 11, 101, 25, 102, 26, 30, 103] (by decide +kernel) (by decide +kernel)
set_option maxRecDepth 20000 in
theorem ggL_law_L_change_r2 : GoodIn wsL_law wsL_change_r2 := goodIn_r _ [34, 104, 105, 106, 107, 29, 108, 47, 109, 110, 111, 112, 50, 113, 114, 115, 116, 49, 117, 118, 119, 120, 121, 122] (by decide +kernel) (by decide +kernel)
set_option maxRecDepth 20000 in
theorem ggL_law_L_change_r3 : GoodIn wsL_law wsL_change_r3 := goodIn_r _ [123, 124, 125, 126, 127, 52, 128, 129, 130, 131, 132, 133, 134, 135, 136, 137, 138, 139, 140, 141, 142, 143, 144, 145] (by decide +kernel) (by decide +kernel)
set_option maxRecDepth 20000 in
theorem ggL_law_L_change_r4 : GoodIn wsL_law wsL_change_r4 := goodIn_r _ [146, 147, 148, 149, 150, 151, 152, 153, 154, 155, 156, 157, 158, 159, 160, 51, 48, 161, 162, 163, 164, 165, 166, 167] (by decide +kernel) (by decide +kernel)
set_option maxRecDepth 20000 in
theorem ggL_law_L_change_r5 : GoodIn wsL_law wsL_change_r5 := goodIn_r _ [168, 24, 169, 40, 41, 170, 171, 172, 33, 173, 57, 58, 174, 175, 176, 177, 59, 60, 61, 79, 80, 76, 81, 82] (by decide +kernel) (by decide +kernel)
set_option maxRecDepth 20000 in
theorem ggL_law_L_change_r6 : GoodIn wsL_law wsL_change_r6 := goodIn_r _ [178, 179, 180, 181, 182, 183, 184, 185, 186, 187, 188, 189, 190, 191, 192, 14, 13, 193, 194, 195, 196, 197, 198, 199] (by decide +kernel) (by decide +kernel)
set_option maxRecDepth 20000 in
theorem ggL_law_L_change_r7 : GoodIn wsL_law wsL_change_r7 := goodIn_r _ [200, 201, 202, 203, 204, 38, 205, 206, 207, 208, 42, 43, 209, 210, 211, 212, 213, 53, 214, 215, 216, 217, 218, 62] (by decide +kernel) (by decide +kernel)
set_option maxRecDepth 20000 in
theorem ggL_law_L_change_r8 : GoodIn wsL_law wsL_change_r8 := goodIn_r _ [219, 220, 221, 222, 223, 224, 225, 226, 227, 228, 229, 230, 231, 232, 233, 234, 235, 236, 237, 238, 239, 240, 241, 242] (by decide +kernel) (by decide +kernel)
set_option maxRecDepth 20000 in
theorem ggL_law_L_change_r9 : GoodIn wsL_law wsL_change_r9 := goodIn_r _ [243, 244, 245, 246, 247, 248, 249, 250, 251, 252, 253, 254, 255, 256, 257, 258, 259, 260, 261, 262, 263, 264, 265, 266] (by decide +kernel) (by decide +kernel)
set_option maxRecDepth 20000 in
theorem ggL_law_L_change_r10 : GoodIn wsL_law wsL_change_r10 := goodIn_r _ [267, 268, 269, 270, 271, 272, 273, 274, 275, 276, 277, 278, 279, 280, 281, 282, 283, 284, 285, 286, 287, 288, 289, 290] (by decide +kernel) (by decide +kernel)
set_option maxRecDepth 20000 in
theorem ggL_law_L_change_r11 : GoodIn wsL_law wsL_change_r11 := goodIn_r _ [291, 292, 293, 294, 295, 296, 297, 298, 299, 300, 301, 302, 303, 304, 305, 306, 307, 308, 309, 310, 311, 312, 313, 314] (by decide +kernel) (by decide +kernel)
set_option maxRecDepth 20000 in
theorem ggL_law_L_change_r12 : GoodIn wsL_law wsL_change_r12 := goodIn_r _ [315, 316, 317, 318, 319, 320, 321, 322, 323, 324, 325, 326, 327, 328, 329, 330, 331, 332, 333, 334, 335, 336, 337, 338] (by decide +kernel) (by decide +kernel)
set_option maxRecDepth 20000 in
theorem ggL_law_L_change_r13 : GoodIn wsL_law wsL_change_r13 := goodIn_r _ [339, 340, 341, 342, 343, 344, 345, 346, 347, 348, 349, 350, 351, 352, 353, 354, 355, 356, 357, 358, 359] (by decide +kernel) (by decide +kernel)
set_option maxRecDepth 20000 in
theorem ggL_law_L_change_wsX50 : GoodIn wsL_law wsX50 := goodIn_r _ [517, 518, 519, 520] (by decide +kernel) (by decide +kernel)
set_option maxRecDepth 20000 in
theorem ggL_law_L_change_wsX00 : GoodIn wsL_law wsX00 := goodIn_r _ [521, 522, 523, 524] (by decide +kernel) (by decide +kernel)
set_option maxRecDepth 20000 in
theorem ggL_law_L_change_wsX40 : GoodIn wsL_law wsX40 := goodIn_r _ [532, 533, 534, 535, 536] (by decide +kernel) (by decide +kernel)
set_option maxRecDepth 20000 in
theorem ggL_law_L_change_wsX30 : GoodIn wsL_law wsX30 := goodIn_r _ [537, 538, 539, 540, 541, 542, 543] (by decide +kernel) (by decide +kernel)
set_option maxRecDepth 20000 in
theorem ggL_law_L_change_wsX20 : GoodIn wsL_law wsX20 := goodIn_r _ [544, 545, 546, 547, 548, 549] (by decide +kernel) (by decide +kernel)
set_option maxRecDepth 20000 in
theorem ggL_law_L_change : GoodIn wsL_law wsL_change := goodIn_ca (goodIn_ca (goodIn_ca (goodIn_cc ggL_law_L_change_0 (goodIn_app (goodIn_app (goodIn_app (goodIn_app (goodIn_app (goodIn_app ggL_law_L_change_r1 (goodIn_app ggL_law_L_change_r2 (goodIn_app ggL_law_L_change_r3 (goodIn_app ggL_law_L_change_r4 (goodIn_app ggL_law_L_change_r5 (goodIn_app ggL_law_L_change_r6 (goodIn_app ggL_law_L_change_r7 (goodIn_app ggL_law_L_change_r8 (goodIn_app ggL_law_L_change_r9 (goodIn_app ggL_law_L_change_r10 (goodIn_app ggL_law_L_change_r11 (goodIn_app ggL_law_L_change_r12 ggL_law_L_change_r13)))))))))))) ggL_law_L_change_wsX50) ggL_law_L_change_wsX00) ggL_law_L_change_wsX40) ggL_law_L_change_wsX30) ggL_law_L_change_wsX20)) (goodIn_sub (fun _ h => List.mem_append_left _ (List.mem_append_left _ (List.mem_append_right _ h))) (by decide +kernel))) (goodIn_sub (fun _ h => List.mem_append_left _ (List.mem_append_right _ h)) (by decide +kernel))) (goodIn_sub (fun _ h => List.mem_append_right _ h) (by decide +kernel))
set_option maxRecDepth 20000 in
theorem gL_law_L_change : GoodIn wsL_law (va_wsS RL 113 yL_change wsL_change) := goodIn_app (goodIn_of _ (by decide +kernel)) ggL_law_L_change
