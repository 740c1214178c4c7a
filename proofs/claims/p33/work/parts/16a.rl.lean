theorem dL_cell_0 : decode cL_cell 0 = .ok (.iload_n 1, 1) := by decide +kernel
theorem dL_cell_1 : decode cL_cell 1 = .ok (.aload_n 0, 1) := by decide +kernel
theorem dL_cell_2 : decode cL_cell 2 = .ok (.arraylength, 1) := by decide +kernel
theorem dL_cell_3 : decode cL_cell 3 = .ok (.if_icmp .ge 9, 3) := by decide +kernel
theorem dL_cell_6 : decode cL_cell 6 = .ok (.aload_n 0, 1) := by decide +kernel
theorem dL_cell_7 : decode cL_cell 7 = .ok (.iload_n 1, 1) := by decide +kernel
theorem dL_cell_8 : decode cL_cell 8 = .ok (.iaload, 1) := by decide +kernel
theorem dL_cell_9 : decode cL_cell 9 = .ok (.goto 9, 3) := by decide +kernel
theorem dL_cell_12 : decode cL_cell 12 = .ok (.ldc 7, 2) := by decide +kernel
theorem dL_cell_14 : decode cL_cell 14 = .ok (.iload_n 1, 1) := by decide +kernel
theorem dL_cell_15 : decode cL_cell 15 = .ok (.iconst 1, 1) := by decide +kernel
theorem dL_cell_16 : decode cL_cell 16 = .ok (.iadd, 1) := by decide +kernel
theorem dL_cell_17 : decode cL_cell 17 = .ok (.imul, 1) := by decide +kernel
theorem dL_cell_18 : decode cL_cell 18 = .ok (.ireturn, 1) := by decide +kernel
theorem dL_low_0 : decode cL_low 0 = .ok (.iload_n 0, 1) := by decide +kernel
theorem dL_low_1 : decode cL_low 1 = .ok (.ldc 8, 2) := by decide +kernel
theorem dL_low_3 : decode cL_low 3 = .ok (.iand, 1) := by decide +kernel
theorem dL_low_4 : decode cL_low 4 = .ok (.iload_n 1, 1) := by decide +kernel
theorem dL_low_5 : decode cL_low 5 = .ok (.irem, 1) := by decide +kernel
theorem dL_low_6 : decode cL_low 6 = .ok (.ireturn, 1) := by decide +kernel
set_option maxRecDepth 20000 in
theorem ggL_change_X5_value : GoodIn wsL_change wsX5_value := goodIn_ca (goodIn_r _ [5, 6, 7, 8, 4, 9, 10, 11, 12, 13, 14, 15, 16, 17, 18, 19, 20, 21, 22, 23, 24, 25, 26, 27, 28, 29, 30, 31, 32, 33, 34, 35, 36, 37, 38, 39, 40, 41, 42, 43, 44, 45, 46, 47, 48, 49, 50, 51, 52, 53, 54, 55, 56, 57, 58, 59, 60, 61, 62, 63, 64, 65, 66, 67, 68, 69, 70, 71, 72, 73, 74, 75, 76, 77, 78, 79, 80, 81, 82, 83, 84, 85, 86, 87, 88, 89, 90, 91, 92, 93, 94, 95, 96, 97, 98, 99, 100, 101, 102, 103, 104, 105, 106, 107, 108, 109, 110, 111, 112, 113, 114, 115, 310, 311, 312, 313, 314, 315, 316, 317, 318, 319, 320, 321, 322, 323, 324, 325, 326, 327, 328, 329, 330, 331, 332, 333, 334, 335] (by decide +kernel) (by decide +kernel)) (goodIn_sub (fun _ h => List.mem_cons_of_mem _ (List.mem_append_left _ (List.mem_append_left _ (List.mem_append_right _ h)))) (by decide +kernel))
set_option maxRecDepth 20000 in
theorem gL_change_X5_value : GoodIn wsL_change (wsV RL 9 RX5 yX5_value wsX5_value) := goodIn_app (goodIn_of _ (by decide +kernel)) ggL_change_X5_value
set_option maxRecDepth 20000 in
theorem ggL_change_L_low : GoodIn wsL_change wsL_low := goodIn_r _ [119, 120] (by decide +kernel) (by decide +kernel)
set_option maxRecDepth 20000 in
theorem gL_change_L_low : GoodIn wsL_change (va_wsS RL 15 yL_low wsL_low) := goodIn_app (goodIn_of _ (by decide +kernel)) ggL_change_L_low
set_option maxRecDepth 20000 in
theorem ggL_change_X5_addVersion : GoodIn wsL_change wsX5_addVersion := goodIn_ca (goodIn_ca (goodIn_r _ [124, 6, 125, 126, 7, 8, 4, 9, 10, 11, 12, 13, 14, 127, 128, 129, 130, 131, 132, 133, 134, 135, 136, 137, 138, 139, 140, 141, 142, 143, 144, 18, 145, 20, 22, 23, 25, 146, 147, 148, 98, 149, 150, 100, 151, 152, 153, 154, 101, 155, 156, 157, 158, 159, 30, 160, 32, 89, 161, 42, 37, 88, 54, 162, 163, 164, 165, 105, 166, 107, 108, 167, 113, 114, 115, 168, 169, 170, 171, 172, 310, 311, 312, 313, 314, 315, 316, 317, 318, 319, 320, 321, 322, 323, 324, 325, 326, 327, 328, 329, 330, 331, 332, 333, 334, 335] (by decide +kernel) (by decide +kernel)) (goodIn_sub (fun _ h => List.mem_cons_of_mem _ (List.mem_append_left _ (List.mem_append_left _ (List.mem_append_right _ h)))) (by decide +kernel))) (goodIn_sub (fun _ h => List.mem_cons_of_mem _ (List.mem_append_left _ (List.mem_append_right _ h))) (by decide +kernel))
set_option maxRecDepth 20000 in
theorem gL_change_X5_addVersion : GoodIn wsL_change (wsV RL 21 RX5 yX5_addVersion wsX5_addVersion) := goodIn_app (goodIn_of _ (by decide +kernel)) ggL_change_X5_addVersion
set_option maxRecDepth 20000 in
theorem ggL_change_X5_addFeature : GoodIn wsL_change wsX5_addFeature := goodIn_ca (goodIn_ca (goodIn_r _ [176, 6, 125, 126, 177, 178, 179, 4, 180, 7, 8, 9, 10, 11, 12, 13, 14, 127, 128, 129, 130, 131, 132, 133, 134, 135, 136, 137, 138, 139, 140, 141, 142, 143, 144, 18, 145, 20, 22, 23, 25, 146, 147, 148, 98, 149, 150, 100, 151, 152, 153, 154, 101, 155, 156, 157, 158, 159, 30, 160, 32, 89, 161, 42, 37, 88, 54, 162, 163, 164, 165, 105, 166, 107, 108, 167, 113, 114, 115, 168, 181, 182, 183, 184, 21, 94, 185, 186, 310, 311, 312, 313, 314, 315, 316, 317, 318, 319, 320, 321, 322, 323, 324, 325, 326, 327, 328, 329, 330, 331, 332, 333, 334, 335] (by decide +kernel) (by decide +kernel)) (goodIn_sub (fun _ h => List.mem_cons_of_mem _ (List.mem_append_left _ (List.mem_append_left _ (List.mem_append_right _ h)))) (by decide +kernel))) (goodIn_sub (fun _ h => List.mem_cons_of_mem _ (List.mem_append_left _ (List.mem_append_right _ h))) (by decide +kernel))
set_option maxRecDepth 20000 in
theorem gL_change_X5_addFeature : GoodIn wsL_change (wsV RL 24 RX5 yX5_addFeature wsX5_addFeature) := goodIn_app (goodIn_of _ (by decide +kernel)) ggL_change_X5_addFeature
set_option maxRecDepth 20000 in
theorem ggL_change_X5_version : GoodIn wsL_change wsX5_version := goodIn_ca (goodIn_ca (goodIn_r _ [190, 6, 125, 126, 191, 192, 4, 193, 194, 195, 196, 197, 198, 7, 8, 9, 10, 11, 12, 13, 14, 199, 200, 201, 18, 202, 20, 67, 68, 94, 203, 25, 204, 205, 206, 105, 207, 107, 113, 310, 311, 312, 313, 314, 315, 316, 317, 318, 319, 320, 321, 322, 330, 331, 332, 333, 334, 335] (by decide +kernel) (by decide +kernel)) (goodIn_sub (fun _ h => List.mem_cons_of_mem _ (List.mem_append_right _ h)) (by decide +kernel))) (goodIn_sub (fun _ h => List.mem_cons_of_mem _ (List.mem_append_left _ (List.mem_append_left _ (List.mem_append_right _ h)))) (by decide +kernel))
set_option maxRecDepth 20000 in
theorem gL_change_X5_version : GoodIn wsL_change (wsV RL 27 RX5 yX5_version wsX5_version) := goodIn_app (goodIn_of _ (by decide +kernel)) ggL_change_X5_version
set_option maxRecDepth 20000 in
theorem ggL_change_X5_put : GoodIn wsL_change wsX5_put := goodIn_ca (goodIn_ca (goodIn_r _ [211, 6, 177, 125, 126, 212, 191, 192, 4, 193, 194, 195, 196, 197, 198, 213, 185, 186, 127, 128, 129, 130, 131, 132, 133, 134, 135, 136, 137, 138, 139, 140, 141, 142, 143, 144, 18, 145, 20, 22, 23, 25, 146, 147, 148, 98, 149, 150, 100, 151, 152, 153, 154, 101, 155, 156, 157, 158, 159, 30, 160, 32, 89, 161, 42, 37, 88, 54, 162, 163, 164, 165, 105, 166, 107, 108, 167, 113, 114, 115, 168, 214, 215, 216, 217, 310, 311, 312, 313, 314, 315, 316, 317, 318, 319, 320, 321, 322, 323, 324, 325, 326, 327, 328, 329, 330, 331, 332, 333, 334, 335] (by decide +kernel) (by decide +kernel)) (goodIn_sub (fun _ h => List.mem_cons_of_mem _ (List.mem_append_right _ h)) (by decide +kernel))) (goodIn_sub (fun _ h => List.mem_cons_of_mem _ (List.mem_append_left _ (List.mem_append_right _ h))) (by decide +kernel))
set_option maxRecDepth 20000 in
theorem gL_change_X5_put : GoodIn wsL_change (wsV RL 30 RX5 yX5_put wsX5_put) := goodIn_app (goodIn_of _ (by decide +kernel)) ggL_change_X5_put
set_option maxRecDepth 20000 in
theorem ggL_change_X5_addUser : GoodIn wsL_change wsX5_addUser := goodIn_ca (goodIn_ca (goodIn_ca (goodIn_r _ [221, 6, 125, 126, 177, 222, 223, 191, 192, 4, 193, 194, 195, 196, 197, 198, 178, 179, 180, 7, 8, 9, 10, 11, 12, 13, 14, 127, 128, 129, 130, 131, 132, 133, 134, 135, 136, 137, 138, 139, 140, 141, 142, 143, 144, 18, 145, 20, 22, 23, 25, 146, 147, 148, 98, 149, 150, 100, 151, 152, 153, 154, 101, 155, 156, 157, 158, 159, 30, 160, 32, 89, 161, 42, 37, 88, 54, 162, 163, 164, 165, 105, 166, 107, 108, 167, 113, 114, 115, 168, 224, 225, 226, 227, 228, 229, 230, 231, 310, 311, 312, 313, 314, 315, 316, 317, 318, 319, 320, 321, 322, 323, 324, 325, 326, 327, 328, 329, 330, 331, 332, 333, 334, 335] (by decide +kernel) (by decide +kernel)) (goodIn_sub (fun _ h => List.mem_cons_of_mem _ (List.mem_append_right _ h)) (by decide +kernel))) (goodIn_sub (fun _ h => List.mem_cons_of_mem _ (List.mem_append_left _ (List.mem_append_left _ (List.mem_append_right _ h)))) (by decide +kernel))) (goodIn_sub (fun _ h => List.mem_cons_of_mem _ (List.mem_append_left _ (List.mem_append_right _ h))) (by decide +kernel))
set_option maxRecDepth 20000 in
theorem gL_change_X5_addUser : GoodIn wsL_change (wsV RL 34 RX5 yX5_addUser wsX5_addUser) := goodIn_app (goodIn_of _ (by decide +kernel)) ggL_change_X5_addUser
set_option maxRecDepth 20000 in
theorem ggL_change_X5_pledge : GoodIn wsL_change wsX5_pledge := goodIn_ca (goodIn_ca (goodIn_ca (goodIn_r _ [235, 6, 222, 236, 237, 238, 239, 18, 240, 23, 24, 20, 21, 197, 4, 198, 13, 14, 241, 242, 243, 194, 195, 10, 11, 130, 131, 132, 133, 134, 135, 136, 137, 138, 139, 140, 141, 142, 143, 144, 145, 22, 25, 146, 147, 148, 98, 149, 150, 100, 151, 152, 153, 154, 101, 155, 156, 157, 158, 159, 30, 160, 32, 89, 161, 42, 37, 88, 54, 162, 163, 164, 165, 105, 166, 107, 108, 167, 113, 114, 115, 168, 244, 229, 230, 231, 310, 311, 312, 313, 314, 315, 316, 317, 323, 324, 325, 326, 327, 328, 329, 318, 319, 320, 321, 322, 330, 331, 332, 333, 334, 335] (by decide +kernel) (by decide +kernel)) (goodIn_sub (fun _ h => List.mem_cons_of_mem _ (List.mem_append_right _ h)) (by decide +kernel))) (goodIn_sub (fun _ h => List.mem_cons_of_mem _ (List.mem_append_left _ (List.mem_append_left _ (List.mem_append_right _ h)))) (by decide +kernel))) (goodIn_sub (fun _ h => List.mem_cons_of_mem _ (List.mem_append_left _ (List.mem_append_right _ h))) (by decide +kernel))
set_option maxRecDepth 20000 in
theorem gL_change_X5_pledge : GoodIn wsL_change (wsV RL 37 RX5 yX5_pledge wsX5_pledge) := goodIn_app (goodIn_of _ (by decide +kernel)) ggL_change_X5_pledge
set_option maxRecDepth 20000 in
theorem ggL_change_X5_user : GoodIn wsL_change wsX5_user := goodIn_ca (goodIn_ca (goodIn_r _ [248, 6, 222, 223, 191, 192, 4, 193, 194, 195, 196, 197, 198, 7, 8, 9, 10, 11, 12, 13, 14, 249, 250, 251, 30, 252, 89, 42, 37, 88, 54, 162, 310, 311, 312, 313, 314, 315, 316, 317, 323, 324, 325, 326, 327, 328, 329] (by decide +kernel) (by decide +kernel)) (goodIn_sub (fun _ h => List.mem_cons_of_mem _ (List.mem_append_right _ h)) (by decide +kernel))) (goodIn_sub (fun _ h => List.mem_cons_of_mem _ (List.mem_append_left _ (List.mem_append_left _ (List.mem_append_right _ h)))) (by decide +kernel))
set_option maxRecDepth 20000 in
theorem gL_change_X5_user : GoodIn wsL_change (wsV RL 41 RX5 yX5_user wsX5_user) := goodIn_app (goodIn_of _ (by decide +kernel)) ggL_change_X5_user
set_option maxRecDepth 20000 in
theorem ggL_change_X5_takeBack : GoodIn wsL_change wsX5_takeBack := goodIn_ca (goodIn_ca (goodIn_r _ [256, 6, 222, 223, 236, 191, 192, 4, 193, 194, 195, 196, 197, 198, 257, 34, 35, 30, 36, 37, 127, 128, 129, 130, 131, 132, 133, 134, 135, 136, 137, 138, 139, 140, 141, 142, 143, 144, 18, 145, 20, 22, 23, 25, 146, 147, 148, 98, 149, 150, 100, 151, 152, 153, 154, 101, 155, 156, 157, 158, 159, 160, 32, 89, 161, 42, 88, 54, 162, 163, 164, 165, 105, 166, 107, 108, 167, 113, 114, 115, 168, 244, 229, 230, 231, 310, 311, 312, 313, 314, 315, 316, 317, 323, 324, 325, 326, 327, 328, 329, 318, 319, 320, 321, 322, 330, 331, 332, 333, 334, 335] (by decide +kernel) (by decide +kernel)) (goodIn_sub (fun _ h => List.mem_cons_of_mem _ (List.mem_append_right _ h)) (by decide +kernel))) (goodIn_sub (fun _ h => List.mem_cons_of_mem _ (List.mem_append_left _ (List.mem_append_right _ h))) (by decide +kernel))
set_option maxRecDepth 20000 in
theorem gL_change_X5_takeBack : GoodIn wsL_change (wsV RL 44 RX5 yX5_takeBack wsX5_takeBack) := goodIn_app (goodIn_of _ (by decide +kernel)) ggL_change_X5_takeBack
set_option maxRecDepth 20000 in
theorem ggL_change_X5_slip : GoodIn wsL_change wsX5_slip := goodIn_ca (goodIn_ca (goodIn_ca (goodIn_r _ [261, 6, 222, 236, 262, 263, 264, 18, 265, 23, 24, 69, 197, 4, 198, 13, 14, 266, 34, 35, 30, 36, 37, 241, 242, 243, 194, 195, 10, 11, 130, 131, 132, 133, 134, 135, 136, 137, 138, 139, 140, 141, 142, 143, 144, 145, 20, 22, 25, 146, 147, 148, 98, 149, 150, 100, 151, 152, 153, 154, 101, 155, 156, 157, 158, 159, 160, 32, 89, 161, 42, 88, 54, 162, 163, 164, 165, 105, 166, 107, 108, 167, 113, 114, 115, 168, 267, 268, 269, 270, 310, 311, 312, 313, 314, 315, 316, 317, 323, 324, 325, 326, 327, 328, 329, 318, 319, 320, 321, 322, 330, 331, 332, 333, 334, 335] (by decide +kernel) (by decide +kernel)) (goodIn_sub (fun _ h => List.mem_cons_of_mem _ (List.mem_append_right _ h)) (by decide +kernel))) (goodIn_sub (fun _ h => List.mem_cons_of_mem _ (List.mem_append_left _ (List.mem_append_left _ (List.mem_append_right _ h)))) (by decide +kernel))) (goodIn_sub (fun _ h => List.mem_cons_of_mem _ (List.mem_append_left _ (List.mem_append_right _ h))) (by decide +kernel))
set_option maxRecDepth 20000 in
theorem gL_change_X5_slip : GoodIn wsL_change (wsV RL 47 RX5 yX5_slip wsX5_slip) := goodIn_app (goodIn_of _ (by decide +kernel)) ggL_change_X5_slip
set_option maxRecDepth 20000 in
theorem ggL_change_X5_extend : GoodIn wsL_change wsX5_extend := goodIn_ca (goodIn_ca (goodIn_ca (goodIn_r _ [274, 6, 125, 275, 276, 277, 278, 18, 279, 20, 21, 68, 197, 4, 198, 13, 14, 241, 242, 243, 194, 195, 10, 11, 130, 131, 132, 133, 134, 135, 136, 137, 138, 139, 140, 141, 142, 143, 144, 145, 22, 23, 25, 146, 147, 148, 98, 149, 150, 100, 151, 152, 153, 154, 101, 155, 156, 157, 158, 159, 30, 160, 32, 89, 161, 42, 37, 88, 54, 162, 163, 164, 165, 105, 166, 107, 108, 167, 113, 114, 115, 168, 280, 281, 282, 283, 310, 311, 312, 313, 314, 315, 316, 317, 318, 319, 320, 321, 322, 323, 324, 325, 326, 327, 328, 329, 330, 331, 332, 333, 334, 335] (by decide +kernel) (by decide +kernel)) (goodIn_sub (fun _ h => List.mem_cons_of_mem _ (List.mem_append_right _ h)) (by decide +kernel))) (goodIn_sub (fun _ h => List.mem_cons_of_mem _ (List.mem_append_left _ (List.mem_append_left _ (List.mem_append_right _ h)))) (by decide +kernel))) (goodIn_sub (fun _ h => List.mem_cons_of_mem _ (List.mem_append_left _ (List.mem_append_right _ h))) (by decide +kernel))
set_option maxRecDepth 20000 in
theorem gL_change_X5_extend : GoodIn wsL_change (wsV RL 50 RX5 yX5_extend wsX5_extend) := goodIn_app (goodIn_of _ (by decide +kernel)) ggL_change_X5_extend
set_option maxRecDepth 20000 in
theorem ggL_change_X5_addShim : GoodIn wsL_change wsX5_addShim := goodIn_ca (goodIn_ca (goodIn_ca (goodIn_r _ [287, 6, 288, 289, 290, 291, 18, 292, 22, 20, 21, 25, 26, 197, 4, 198, 13, 14, 241, 242, 243, 194, 195, 10, 11, 130, 131, 132, 133, 134, 135, 136, 137, 138, 139, 140, 141, 142, 143, 144, 145, 23, 146, 147, 148, 98, 149, 150, 100, 151, 152, 153, 154, 101, 155, 156, 157, 158, 159, 30, 160, 32, 89, 161, 42, 37, 88, 54, 162, 163, 164, 165, 105, 166, 107, 108, 167, 113, 114, 115, 168, 293, 294, 295, 296, 310, 311, 312, 313, 314, 315, 316, 317, 318, 319, 320, 321, 322, 330, 331, 332, 333, 334, 335, 323, 324, 325, 326, 327, 328, 329] (by decide +kernel) (by decide +kernel)) (goodIn_sub (fun _ h => List.mem_cons_of_mem _ (List.mem_append_right _ h)) (by decide +kernel))) (goodIn_sub (fun _ h => List.mem_cons_of_mem _ (List.mem_append_left _ (List.mem_append_left _ (List.mem_append_right _ h)))) (by decide +kernel))) (goodIn_sub (fun _ h => List.mem_cons_of_mem _ (List.mem_append_left _ (List.mem_append_right _ h))) (by decide +kernel))
set_option maxRecDepth 20000 in
theorem gL_change_X5_addShim : GoodIn wsL_change (wsV RL 53 RX5 yX5_addShim wsX5_addShim) := goodIn_app (goodIn_of _ (by decide +kernel)) ggL_change_X5_addShim
set_option maxRecDepth 20000 in
theorem ggL_change_X5_dropShim : GoodIn wsL_change wsX5_dropShim := goodIn_ca (goodIn_ca (goodIn_ca (goodIn_r _ [300, 6, 288, 301, 302, 303, 304, 18, 305, 25, 26, 197, 4, 198, 241, 242, 243, 194, 195, 10, 11, 130, 131, 132, 133, 134, 135, 136, 137, 138, 139, 140, 141, 142, 143, 144, 145, 20, 22, 23, 146, 147, 148, 98, 149, 150, 100, 151, 152, 153, 154, 101, 155, 156, 157, 158, 159, 30, 160, 32, 89, 161, 42, 37, 88, 54, 162, 163, 164, 165, 105, 166, 107, 108, 167, 113, 114, 115, 168, 306, 307, 308, 309, 310, 311, 312, 313, 314, 315, 316, 317, 330, 331, 332, 333, 334, 335, 318, 319, 320, 321, 322, 323, 324, 325, 326, 327, 328, 329] (by decide +kernel) (by decide +kernel)) (goodIn_sub (fun _ h => List.mem_cons_of_mem _ (List.mem_append_right _ h)) (by decide +kernel))) (goodIn_sub (fun _ h => List.mem_cons_of_mem _ (List.mem_append_left _ (List.mem_append_left _ (List.mem_append_right _ h)))) (by decide +kernel))) (goodIn_sub (fun _ h => List.mem_cons_of_mem _ (List.mem_append_left _ (List.mem_append_right _ h))) (by decide +kernel))
set_option maxRecDepth 20000 in
theorem gL_change_X5_dropShim : GoodIn wsL_change (wsV RL 57 RX5 yX5_dropShim wsX5_dropShim) := goodIn_app (goodIn_of _ (by decide +kernel)) ggL_change_X5_dropShim
theorem dL_change_0 : decode cL_change 0 = .ok (.aload_n 0, 1) := by decide +kernel
theorem dL_change_1 : decode cL_change 1 = .ok (.iconst 0, 1) := by decide +kernel
theorem dL_change_2 : decode cL_change 2 = .ok (.invokevirtual 9, 3) := by decide +kernel
theorem dL_change_5 : decode cL_change 5 = .ok (.istore_n 3, 1) := by decide +kernel
theorem dL_change_6 : decode cL_change 6 = .ok (.aload_n 0, 1) := by decide +kernel
theorem dL_change_7 : decode cL_change 7 = .ok (.iconst 1, 1) := by decide +kernel
theorem dL_change_8 : decode cL_change 8 = .ok (.invokevirtual 9, 3) := by decide +kernel
theorem dL_change_11 : decode cL_change 11 = .ok (.istore 4, 2) := by decide +kernel
theorem dL_change_13 : decode cL_change 13 = .ok (.aload_n 0, 1) := by decide +kernel
theorem dL_change_14 : decode cL_change 14 = .ok (.iconst 2, 1) := by decide +kernel
theorem dL_change_15 : decode cL_change 15 = .ok (.invokevirtual 9, 3) := by decide +kernel
theorem dL_change_18 : decode cL_change 18 = .ok (.istore 5, 2) := by decide +kernel
theorem dL_change_20 : decode cL_change 20 = .ok (.iload 5, 2) := by decide +kernel
theorem dL_change_22 : decode cL_change 22 = .ok (.ifCond .ne 7, 3) := by decide +kernel
theorem dL_change_25 : decode cL_change 25 = .ok (.iconst 0, 1) := by decide +kernel
theorem dL_change_26 : decode cL_change 26 = .ok (.goto 11, 3) := by decide +kernel
theorem dL_change_29 : decode cL_change 29 = .ok (.iload_n 1, 1) := by decide +kernel
theorem dL_change_30 : decode cL_change 30 = .ok (.iconst 5, 1) := by decide +kernel
theorem dL_change_31 : decode cL_change 31 = .ok (.ishr, 1) := by decide +kernel
theorem dL_change_32 : decode cL_change 32 = .ok (.iload 5, 2) := by decide +kernel
theorem dL_change_34 : decode cL_change 34 = .ok (.invokestatic 15, 3) := by decide +kernel
theorem dL_change_37 : decode cL_change 37 = .ok (.istore 6, 2) := by decide +kernel
theorem dL_change_39 : decode cL_change 39 = .ok (.iload_n 3, 1) := by decide +kernel
theorem dL_change_40 : decode cL_change 40 = .ok (.ifCond .ne 7, 3) := by decide +kernel
theorem dL_change_43 : decode cL_change 43 = .ok (.iconst 0, 1) := by decide +kernel
theorem dL_change_44 : decode cL_change 44 = .ok (.goto 11, 3) := by decide +kernel
theorem dL_change_47 : decode cL_change 47 = .ok (.iload_n 1, 1) := by decide +kernel
theorem dL_change_48 : decode cL_change 48 = .ok (.bipush 9, 2) := by decide +kernel
theorem dL_change_50 : decode cL_change 50 = .ok (.ishr, 1) := by decide +kernel
theorem dL_change_51 : decode cL_change 51 = .ok (.iload_n 3, 1) := by decide +kernel
theorem dL_change_52 : decode cL_change 52 = .ok (.invokestatic 15, 3) := by decide +kernel
theorem dL_change_55 : decode cL_change 55 = .ok (.istore 7, 2) := by decide +kernel
theorem dL_change_57 : decode cL_change 57 = .ok (.iload 4, 2) := by decide +kernel
theorem dL_change_59 : decode cL_change 59 = .ok (.ifCond .ne 7, 3) := by decide +kernel
theorem dL_change_62 : decode cL_change 62 = .ok (.iconst 0, 1) := by decide +kernel
theorem dL_change_63 : decode cL_change 63 = .ok (.goto 12, 3) := by decide +kernel
theorem dL_change_66 : decode cL_change 66 = .ok (.iload_n 1, 1) := by decide +kernel
theorem dL_change_67 : decode cL_change 67 = .ok (.bipush 13, 2) := by decide +kernel
theorem dL_change_69 : decode cL_change 69 = .ok (.ishr, 1) := by decide +kernel
theorem dL_change_70 : decode cL_change 70 = .ok (.iload 4, 2) := by decide +kernel
theorem dL_change_72 : decode cL_change 72 = .ok (.invokestatic 15, 3) := by decide +kernel
theorem dL_change_75 : decode cL_change 75 = .ok (.istore 8, 2) := by decide +kernel
theorem dL_change_77 : decode cL_change 77 = .ok (.iload_n 2, 1) := by decide +kernel
theorem dL_change_78 : decode cL_change 78 = .ok (.sipush 200, 3) := by decide +kernel
theorem dL_change_81 : decode cL_change 81 = .ok (.invokestatic 15, 3) := by decide +kernel
theorem dL_change_84 : decode cL_change 84 = .ok (.istore 9, 2) := by decide +kernel
theorem dL_change_86 : decode cL_change 86 = .ok (.iload_n 1, 1) := by decide +kernel
theorem dL_change_87 : decode cL_change 87 = .ok (.bipush 12, 2) := by decide +kernel
theorem dL_change_89 : decode cL_change 89 = .ok (.invokestatic 15, 3) := by decide +kernel
theorem dL_change_92 : decode cL_change 92 = .ok (.tableswitch 416 0 10 #[60, 98, 140, 182, 213, 213, 238, 264, 311, 347, 347], 60) := by decide +kernel
theorem dL_change_152 : decode cL_change 152 = .ok (.iload_n 3, 1) := by decide +kernel
theorem dL_change_153 : decode cL_change 153 = .ok (.iconst 5, 1) := by decide +kernel
theorem dL_change_154 : decode cL_change 154 = .ok (.if_icmp .ge 30, 3) := by decide +kernel
theorem dL_change_157 : decode cL_change 157 = .ok (.aload_n 0, 1) := by decide +kernel
theorem dL_change_158 : decode cL_change 158 = .ok (.iload 9, 2) := by decide +kernel
theorem dL_change_160 : decode cL_change 160 = .ok (.iload 9, 2) := by decide +kernel
theorem dL_change_162 : decode cL_change 162 = .ok (.iconst 1, 1) := by decide +kernel
theorem dL_change_163 : decode cL_change 163 = .ok (.iadd, 1) := by decide +kernel
theorem dL_change_164 : decode cL_change 164 = .ok (.iload_n 2, 1) := by decide +kernel
theorem dL_change_165 : decode cL_change 165 = .ok (.bipush 8, 2) := by decide +kernel
theorem dL_change_167 : decode cL_change 167 = .ok (.ishr, 1) := by decide +kernel
theorem dL_change_168 : decode cL_change 168 = .ok (.sipush 1000, 3) := by decide +kernel
theorem dL_change_171 : decode cL_change 171 = .ok (.iload 9, 2) := by decide +kernel
theorem dL_change_173 : decode cL_change 173 = .ok (.isub, 1) := by decide +kernel
theorem dL_change_174 : decode cL_change 174 = .ok (.invokestatic 15, 3) := by decide +kernel
theorem dL_change_177 : decode cL_change 177 = .ok (.iadd, 1) := by decide +kernel
theorem dL_change_178 : decode cL_change 178 = .ok (.invokevirtual 21, 3) := by decide +kernel
theorem dL_change_181 : decode cL_change 181 = .ok (.goto 8, 3) := by decide +kernel
theorem dL_change_184 : decode cL_change 184 = .ok (.aload_n 0, 1) := by decide +kernel
theorem dL_change_185 : decode cL_change 185 = .ok (.iconst 4, 1) := by decide +kernel
theorem dL_change_186 : decode cL_change 186 = .ok (.invokevirtual 9, 3) := by decide +kernel
theorem dL_change_189 : decode cL_change 189 = .ok (.ireturn, 1) := by decide +kernel
theorem dL_change_190 : decode cL_change 190 = .ok (.iload_n 3, 1) := by decide +kernel
theorem dL_change_191 : decode cL_change 191 = .ok (.ifCond .le 24, 3) := by decide +kernel
theorem dL_change_194 : decode cL_change 194 = .ok (.iload 4, 2) := by decide +kernel
theorem dL_change_196 : decode cL_change 196 = .ok (.bipush 6, 2) := by decide +kernel
theorem dL_change_198 : decode cL_change 198 = .ok (.if_icmp .ge 17, 3) := by decide +kernel
theorem dL_change_201 : decode cL_change 201 = .ok (.aload_n 0, 1) := by decide +kernel
theorem dL_change_202 : decode cL_change 202 = .ok (.iload_n 2, 1) := by decide +kernel
theorem dL_change_203 : decode cL_change 203 = .ok (.iconst 1, 1) := by decide +kernel
theorem dL_change_204 : decode cL_change 204 = .ok (.iload_n 3, 1) := by decide +kernel
theorem dL_change_205 : decode cL_change 205 = .ok (.ishl, 1) := by decide +kernel
theorem dL_change_206 : decode cL_change 206 = .ok (.invokestatic 15, 3) := by decide +kernel
theorem dL_change_209 : decode cL_change 209 = .ok (.invokevirtual 24, 3) := by decide +kernel
theorem dL_change_212 : decode cL_change 212 = .ok (.goto 19, 3) := by decide +kernel
theorem dL_change_215 : decode cL_change 215 = .ok (.iload_n 3, 1) := by decide +kernel
theorem dL_change_216 : decode cL_change 216 = .ok (.ifCond .ne 14, 3) := by decide +kernel
theorem dL_change_219 : decode cL_change 219 = .ok (.aload_n 0, 1) := by decide +kernel
theorem dL_change_220 : decode cL_change 220 = .ok (.iconst 0, 1) := by decide +kernel
theorem dL_change_221 : decode cL_change 221 = .ok (.sipush 700, 3) := by decide +kernel
theorem dL_change_224 : decode cL_change 224 = .ok (.invokevirtual 21, 3) := by decide +kernel
theorem dL_change_227 : decode cL_change 227 = .ok (.goto 4, 3) := by decide +kernel
theorem dL_change_230 : decode cL_change 230 = .ok (.iconst 0, 1) := by decide +kernel
theorem dL_change_231 : decode cL_change 231 = .ok (.ireturn, 1) := by decide +kernel
theorem dL_change_232 : decode cL_change 232 = .ok (.iload_n 3, 1) := by decide +kernel
theorem dL_change_233 : decode cL_change 233 = .ok (.ifCond .le 39, 3) := by decide +kernel
theorem dL_change_236 : decode cL_change 236 = .ok (.iload 4, 2) := by decide +kernel
theorem dL_change_238 : decode cL_change 238 = .ok (.ifCond .le 34, 3) := by decide +kernel
theorem dL_change_241 : decode cL_change 241 = .ok (.aload_n 0, 1) := by decide +kernel
theorem dL_change_242 : decode cL_change 242 = .ok (.iload 8, 2) := by decide +kernel
theorem dL_change_244 : decode cL_change 244 = .ok (.iload 7, 2) := by decide +kernel
theorem dL_change_246 : decode cL_change 246 = .ok (.aload_n 0, 1) := by decide +kernel
theorem dL_change_247 : decode cL_change 247 = .ok (.iload 7, 2) := by decide +kernel
theorem dL_change_249 : decode cL_change 249 = .ok (.iconst 2, 1) := by decide +kernel
theorem dL_change_250 : decode cL_change 250 = .ok (.invokevirtual 27, 3) := by decide +kernel
theorem dL_change_253 : decode cL_change 253 = .ok (.iload 8, 2) := by decide +kernel
theorem dL_change_255 : decode cL_change 255 = .ok (.ishr, 1) := by decide +kernel
theorem dL_change_256 : decode cL_change 256 = .ok (.iconst 1, 1) := by decide +kernel
theorem dL_change_257 : decode cL_change 257 = .ok (.iand, 1) := by decide +kernel
theorem dL_change_258 : decode cL_change 258 = .ok (.ifCond .ne 7, 3) := by decide +kernel
theorem dL_change_261 : decode cL_change 261 = .ok (.iconst 1, 1) := by decide +kernel
theorem dL_change_262 : decode cL_change 262 = .ok (.goto 4, 3) := by decide +kernel
theorem dL_change_265 : decode cL_change 265 = .ok (.iconst 0, 1) := by decide +kernel
theorem dL_change_266 : decode cL_change 266 = .ok (.invokevirtual 30, 3) := by decide +kernel
theorem dL_change_269 : decode cL_change 269 = .ok (.goto 4, 3) := by decide +kernel
theorem dL_change_272 : decode cL_change 272 = .ok (.iconst 0, 1) := by decide +kernel
theorem dL_change_273 : decode cL_change 273 = .ok (.ireturn, 1) := by decide +kernel
theorem dL_change_274 : decode cL_change 274 = .ok (.iload_n 3, 1) := by decide +kernel
theorem dL_change_275 : decode cL_change 275 = .ok (.ifCond .le 28, 3) := by decide +kernel
theorem dL_change_278 : decode cL_change 278 = .ok (.iload 5, 2) := by decide +kernel
theorem dL_change_280 : decode cL_change 280 = .ok (.iconst 5, 1) := by decide +kernel
theorem dL_change_281 : decode cL_change 281 = .ok (.if_icmp .ge 22, 3) := by decide +kernel
theorem dL_change_284 : decode cL_change 284 = .ok (.aload_n 0, 1) := by decide +kernel
theorem dL_change_285 : decode cL_change 285 = .ok (.iload 7, 2) := by decide +kernel
theorem dL_change_287 : decode cL_change 287 = .ok (.iload_n 2, 1) := by decide +kernel
theorem dL_change_288 : decode cL_change 288 = .ok (.iconst 3, 1) := by decide +kernel
theorem dL_change_289 : decode cL_change 289 = .ok (.ishr, 1) := by decide +kernel
theorem dL_change_290 : decode cL_change 290 = .ok (.iconst 1, 1) := by decide +kernel
theorem dL_change_291 : decode cL_change 291 = .ok (.iload 4, 2) := by decide +kernel
theorem dL_change_293 : decode cL_change 293 = .ok (.ishl, 1) := by decide +kernel
theorem dL_change_294 : decode cL_change 294 = .ok (.invokestatic 15, 3) := by decide +kernel
theorem dL_change_297 : decode cL_change 297 = .ok (.invokevirtual 34, 3) := by decide +kernel
theorem dL_change_300 : decode cL_change 300 = .ok (.goto 4, 3) := by decide +kernel
theorem dL_change_303 : decode cL_change 303 = .ok (.iconst 0, 1) := by decide +kernel
theorem dL_change_304 : decode cL_change 304 = .ok (.ireturn, 1) := by decide +kernel
theorem dL_change_305 : decode cL_change 305 = .ok (.iload 5, 2) := by decide +kernel
theorem dL_change_307 : decode cL_change 307 = .ok (.ifCond .le 21, 3) := by decide +kernel
theorem dL_change_310 : decode cL_change 310 = .ok (.aload_n 0, 1) := by decide +kernel
theorem dL_change_311 : decode cL_change 311 = .ok (.iload 6, 2) := by decide +kernel
theorem dL_change_313 : decode cL_change 313 = .ok (.iload 7, 2) := by decide +kernel
theorem dL_change_315 : decode cL_change 315 = .ok (.iload_n 2, 1) := by decide +kernel
theorem dL_change_316 : decode cL_change 316 = .ok (.sipush 1000, 3) := by decide +kernel
theorem dL_change_319 : decode cL_change 319 = .ok (.invokestatic 15, 3) := by decide +kernel
theorem dL_change_322 : decode cL_change 322 = .ok (.invokevirtual 37, 3) := by decide +kernel
theorem dL_change_325 : decode cL_change 325 = .ok (.goto 4, 3) := by decide +kernel
theorem dL_change_328 : decode cL_change 328 = .ok (.iconst 0, 1) := by decide +kernel
theorem dL_change_329 : decode cL_change 329 = .ok (.ireturn, 1) := by decide +kernel
theorem dL_change_330 : decode cL_change 330 = .ok (.iload 5, 2) := by decide +kernel
theorem dL_change_332 : decode cL_change 332 = .ok (.ifCond .le 22, 3) := by decide +kernel
theorem dL_change_335 : decode cL_change 335 = .ok (.aload_n 0, 1) := by decide +kernel
theorem dL_change_336 : decode cL_change 336 = .ok (.iload 6, 2) := by decide +kernel
theorem dL_change_338 : decode cL_change 338 = .ok (.iconst 2, 1) := by decide +kernel
theorem dL_change_339 : decode cL_change 339 = .ok (.invokevirtual 41, 3) := by decide +kernel
theorem dL_change_342 : decode cL_change 342 = .ok (.ifCond .lt 12, 3) := by decide +kernel
theorem dL_change_345 : decode cL_change 345 = .ok (.aload_n 0, 1) := by decide +kernel
theorem dL_change_346 : decode cL_change 346 = .ok (.iload 6, 2) := by decide +kernel
theorem dL_change_348 : decode cL_change 348 = .ok (.invokevirtual 44, 3) := by decide +kernel
theorem dL_change_351 : decode cL_change 351 = .ok (.goto 4, 3) := by decide +kernel
theorem dL_change_354 : decode cL_change 354 = .ok (.iconst 0, 1) := by decide +kernel
theorem dL_change_355 : decode cL_change 355 = .ok (.ireturn, 1) := by decide +kernel
theorem dL_change_356 : decode cL_change 356 = .ok (.iload 5, 2) := by decide +kernel
theorem dL_change_358 : decode cL_change 358 = .ok (.ifCond .le 43, 3) := by decide +kernel
theorem dL_change_361 : decode cL_change 361 = .ok (.aload_n 0, 1) := by decide +kernel
theorem dL_change_362 : decode cL_change 362 = .ok (.iload 6, 2) := by decide +kernel
theorem dL_change_364 : decode cL_change 364 = .ok (.iconst 2, 1) := by decide +kernel
theorem dL_change_365 : decode cL_change 365 = .ok (.invokevirtual 41, 3) := by decide +kernel
theorem dL_change_368 : decode cL_change 368 = .ok (.ifCond .lt 33, 3) := by decide +kernel
theorem dL_change_371 : decode cL_change 371 = .ok (.aload_n 0, 1) := by decide +kernel
theorem dL_change_372 : decode cL_change 372 = .ok (.iload 6, 2) := by decide +kernel
theorem dL_change_374 : decode cL_change 374 = .ok (.iconst 3, 1) := by decide +kernel
theorem dL_change_375 : decode cL_change 375 = .ok (.invokevirtual 41, 3) := by decide +kernel
theorem dL_change_378 : decode cL_change 378 = .ok (.sipush 900, 3) := by decide +kernel
theorem dL_change_381 : decode cL_change 381 = .ok (.if_icmp .ge 20, 3) := by decide +kernel
theorem dL_change_384 : decode cL_change 384 = .ok (.aload_n 0, 1) := by decide +kernel
theorem dL_change_385 : decode cL_change 385 = .ok (.iload 6, 2) := by decide +kernel
theorem dL_change_387 : decode cL_change 387 = .ok (.iconst 1, 1) := by decide +kernel
theorem dL_change_388 : decode cL_change 388 = .ok (.iload_n 2, 1) := by decide +kernel
theorem dL_change_389 : decode cL_change 389 = .ok (.bipush 99, 2) := by decide +kernel
theorem dL_change_391 : decode cL_change 391 = .ok (.invokestatic 15, 3) := by decide +kernel
theorem dL_change_394 : decode cL_change 394 = .ok (.iadd, 1) := by decide +kernel
theorem dL_change_395 : decode cL_change 395 = .ok (.invokevirtual 47, 3) := by decide +kernel
theorem dL_change_398 : decode cL_change 398 = .ok (.goto 4, 3) := by decide +kernel
theorem dL_change_401 : decode cL_change 401 = .ok (.iconst 0, 1) := by decide +kernel
theorem dL_change_402 : decode cL_change 402 = .ok (.ireturn, 1) := by decide +kernel
theorem dL_change_403 : decode cL_change 403 = .ok (.iload_n 3, 1) := by decide +kernel
theorem dL_change_404 : decode cL_change 404 = .ok (.ifCond .le 33, 3) := by decide +kernel
theorem dL_change_407 : decode cL_change 407 = .ok (.aload_n 0, 1) := by decide +kernel
theorem dL_change_408 : decode cL_change 408 = .ok (.iload 7, 2) := by decide +kernel
theorem dL_change_410 : decode cL_change 410 = .ok (.iconst 1, 1) := by decide +kernel
theorem dL_change_411 : decode cL_change 411 = .ok (.invokevirtual 27, 3) := by decide +kernel
theorem dL_change_414 : decode cL_change 414 = .ok (.sipush 900, 3) := by decide +kernel
theorem dL_change_417 : decode cL_change 417 = .ok (.if_icmp .ge 20, 3) := by decide +kernel
theorem dL_change_420 : decode cL_change 420 = .ok (.aload_n 0, 1) := by decide +kernel
theorem dL_change_421 : decode cL_change 421 = .ok (.iload 7, 2) := by decide +kernel
theorem dL_change_423 : decode cL_change 423 = .ok (.iconst 1, 1) := by decide +kernel
theorem dL_change_424 : decode cL_change 424 = .ok (.iload_n 2, 1) := by decide +kernel
theorem dL_change_425 : decode cL_change 425 = .ok (.bipush 99, 2) := by decide +kernel
theorem dL_change_427 : decode cL_change 427 = .ok (.invokestatic 15, 3) := by decide +kernel
theorem dL_change_430 : decode cL_change 430 = .ok (.iadd, 1) := by decide +kernel
theorem dL_change_431 : decode cL_change 431 = .ok (.invokevirtual 50, 3) := by decide +kernel
theorem dL_change_434 : decode cL_change 434 = .ok (.goto 4, 3) := by decide +kernel
theorem dL_change_437 : decode cL_change 437 = .ok (.iconst 0, 1) := by decide +kernel
theorem dL_change_438 : decode cL_change 438 = .ok (.ireturn, 1) := by decide +kernel
theorem dL_change_439 : decode cL_change 439 = .ok (.iload_n 2, 1) := by decide +kernel
theorem dL_change_440 : decode cL_change 440 = .ok (.sipush 600, 3) := by decide +kernel
theorem dL_change_443 : decode cL_change 443 = .ok (.invokestatic 15, 3) := by decide +kernel
theorem dL_change_446 : decode cL_change 446 = .ok (.istore 10, 2) := by decide +kernel
theorem dL_change_448 : decode cL_change 448 = .ok (.iload_n 3, 1) := by decide +kernel
theorem dL_change_449 : decode cL_change 449 = .ok (.ifCond .le 57, 3) := by decide +kernel
theorem dL_change_452 : decode cL_change 452 = .ok (.iload 4, 2) := by decide +kernel
theorem dL_change_454 : decode cL_change 454 = .ok (.ifCond .le 52, 3) := by decide +kernel
theorem dL_change_457 : decode cL_change 457 = .ok (.aload_n 0, 1) := by decide +kernel
theorem dL_change_458 : decode cL_change 458 = .ok (.iconst 3, 1) := by decide +kernel
theorem dL_change_459 : decode cL_change 459 = .ok (.invokevirtual 9, 3) := by decide +kernel
theorem dL_change_462 : decode cL_change 462 = .ok (.bipush 6, 2) := by decide +kernel
theorem dL_change_464 : decode cL_change 464 = .ok (.if_icmp .ge 42, 3) := by decide +kernel
theorem dL_change_467 : decode cL_change 467 = .ok (.aload_n 0, 1) := by decide +kernel
theorem dL_change_468 : decode cL_change 468 = .ok (.iload 8, 2) := by decide +kernel
theorem dL_change_470 : decode cL_change 470 = .ok (.iload 7, 2) := by decide +kernel
theorem dL_change_472 : decode cL_change 472 = .ok (.iload 10, 2) := by decide +kernel
theorem dL_change_474 : decode cL_change 474 = .ok (.iload 10, 2) := by decide +kernel
theorem dL_change_476 : decode cL_change 476 = .ok (.iload_n 2, 1) := by decide +kernel
theorem dL_change_477 : decode cL_change 477 = .ok (.bipush 10, 2) := by decide +kernel
theorem dL_change_479 : decode cL_change 479 = .ok (.ishr, 1) := by decide +kernel
theorem dL_change_480 : decode cL_change 480 = .ok (.sipush 1000, 3) := by decide +kernel
theorem dL_change_483 : decode cL_change 483 = .ok (.iload 10, 2) := by decide +kernel
theorem dL_change_485 : decode cL_change 485 = .ok (.isub, 1) := by decide +kernel
theorem dL_change_486 : decode cL_change 486 = .ok (.invokestatic 15, 3) := by decide +kernel
theorem dL_change_489 : decode cL_change 489 = .ok (.iadd, 1) := by decide +kernel
theorem dL_change_490 : decode cL_change 490 = .ok (.iconst 1, 1) := by decide +kernel
theorem dL_change_491 : decode cL_change 491 = .ok (.iload_n 2, 1) := by decide +kernel
theorem dL_change_492 : decode cL_change 492 = .ok (.iconst 4, 1) := by decide +kernel
theorem dL_change_493 : decode cL_change 493 = .ok (.ishr, 1) := by decide +kernel
theorem dL_change_494 : decode cL_change 494 = .ok (.bipush 99, 2) := by decide +kernel
theorem dL_change_496 : decode cL_change 496 = .ok (.invokestatic 15, 3) := by decide +kernel
theorem dL_change_499 : decode cL_change 499 = .ok (.iadd, 1) := by decide +kernel
theorem dL_change_500 : decode cL_change 500 = .ok (.invokevirtual 53, 3) := by decide +kernel
theorem dL_change_503 : decode cL_change 503 = .ok (.goto 4, 3) := by decide +kernel
theorem dL_change_506 : decode cL_change 506 = .ok (.iconst 0, 1) := by decide +kernel
theorem dL_change_507 : decode cL_change 507 = .ok (.ireturn, 1) := by decide +kernel
theorem dL_change_508 : decode cL_change 508 = .ok (.aload_n 0, 1) := by decide +kernel
theorem dL_change_509 : decode cL_change 509 = .ok (.iconst 3, 1) := by decide +kernel
theorem dL_change_510 : decode cL_change 510 = .ok (.invokevirtual 9, 3) := by decide +kernel
theorem dL_change_513 : decode cL_change 513 = .ok (.ifCond .le 19, 3) := by decide +kernel
theorem dL_change_516 : decode cL_change 516 = .ok (.aload_n 0, 1) := by decide +kernel
theorem dL_change_517 : decode cL_change 517 = .ok (.iload_n 2, 1) := by decide +kernel
theorem dL_change_518 : decode cL_change 518 = .ok (.aload_n 0, 1) := by decide +kernel
theorem dL_change_519 : decode cL_change 519 = .ok (.iconst 3, 1) := by decide +kernel
theorem dL_change_520 : decode cL_change 520 = .ok (.invokevirtual 9, 3) := by decide +kernel
theorem dL_change_523 : decode cL_change 523 = .ok (.invokestatic 15, 3) := by decide +kernel
theorem dL_change_526 : decode cL_change 526 = .ok (.invokevirtual 57, 3) := by decide +kernel
theorem dL_change_529 : decode cL_change 529 = .ok (.goto 4, 3) := by decide +kernel
theorem dL_change_532 : decode cL_change 532 = .ok (.iconst 0, 1) := by decide +kernel
theorem dL_change_533 : decode cL_change 533 = .ok (.ireturn, 1) := by decide +kernel
theorem dL_bits_0 : decode cL_bits 0 = .ok (.iconst 0, 1) := by decide +kernel
theorem dL_bits_1 : decode cL_bits 1 = .ok (.istore_n 1, 1) := by decide +kernel
theorem dL_bits_2 : decode cL_bits 2 = .ok (.iconst 0, 1) := by decide +kernel
theorem dL_bits_3 : decode cL_bits 3 = .ok (.istore_n 2, 1) := by decide +kernel
theorem dL_bits_4 : decode cL_bits 4 = .ok (.iload_n 2, 1) := by decide +kernel
theorem dL_bits_5 : decode cL_bits 5 = .ok (.bipush 10, 2) := by decide +kernel
theorem dL_bits_7 : decode cL_bits 7 = .ok (.if_icmp .ge 17, 3) := by decide +kernel
theorem dL_bits_10 : decode cL_bits 10 = .ok (.iload_n 1, 1) := by decide +kernel
theorem dL_bits_11 : decode cL_bits 11 = .ok (.iload_n 0, 1) := by decide +kernel
theorem dL_bits_12 : decode cL_bits 12 = .ok (.iload_n 2, 1) := by decide +kernel
theorem dL_bits_13 : decode cL_bits 13 = .ok (.ishr, 1) := by decide +kernel
theorem dL_bits_14 : decode cL_bits 14 = .ok (.iconst 1, 1) := by decide +kernel
theorem dL_bits_15 : decode cL_bits 15 = .ok (.iand, 1) := by decide +kernel
theorem dL_bits_16 : decode cL_bits 16 = .ok (.iadd, 1) := by decide +kernel
theorem dL_bits_17 : decode cL_bits 17 = .ok (.istore_n 1, 1) := by decide +kernel
theorem dL_bits_18 : decode cL_bits 18 = .ok (.iinc 2 1, 3) := by decide +kernel
theorem dL_bits_21 : decode cL_bits 21 = .ok (.goto (-17), 3) := by decide +kernel
theorem dL_bits_24 : decode cL_bits 24 = .ok (.iload_n 1, 1) := by decide +kernel
theorem dL_bits_25 : decode cL_bits 25 = .ok (.ireturn, 1) := by decide +kernel
