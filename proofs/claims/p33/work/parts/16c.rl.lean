set_option maxRecDepth 20000 in
theorem ggL_isMove_X5_latestMove : GoodIn wsL_isMove wsX5_latestMove := goodIn_ca (goodIn_ca (goodIn_r _ [5, 6, 7, 8, 9, 10, 11, 12, 4, 13, 14, 15, 16, 17, 18, 19, 20, 21, 22, 23, 24, 25, 26, 27, 28, 29, 30, 31, 32, 33, 34, 35, 36, 37, 38, 39, 40, 41, 42, 43, 44, 45, 46, 47, 48, 49, 50, 51, 52, 53, 54, 55, 56, 57, 58, 59, 60, 61, 62, 63, 64, 65, 66, 67, 68, 69, 70, 71, 72, 73, 74, 75, 76, 77, 78, 79, 80, 81, 82, 83, 84, 85, 86, 87, 88, 89, 90, 91, 92, 187, 188, 189, 190, 191, 192, 193, 194, 195, 196, 197, 198, 199, 200, 201, 202, 203, 204, 205, 206, 207, 208, 209, 210, 211, 212] (by decide +kernel) (by decide +kernel)) (goodIn_sub (fun _ h => List.mem_cons_of_mem _ (List.mem_append_left _ (List.mem_append_left _ (List.mem_append_right _ h)))) (by decide +kernel))) (goodIn_sub (fun _ h => List.mem_cons_of_mem _ (List.mem_append_left _ (List.mem_append_right _ h))) (by decide +kernel))
set_option maxRecDepth 20000 in
theorem gL_isMove_X5_latestMove : GoodIn wsL_isMove (wsV RL 89 RX5 yX5_latestMove wsX5_latestMove) := goodIn_app (goodIn_of _ (by decide +kernel)) ggL_isMove_X5_latestMove
set_option maxRecDepth 20000 in
theorem ggL_isMove_X5_pledge : GoodIn wsL_isMove wsX5_pledge := goodIn_ca (goodIn_ca (goodIn_ca (goodIn_r _ [96, 6, 7, 97, 98, 99, 100, 33, 101, 35, 81, 50, 78, 17, 4, 18, 28, 29, 102, 103, 104, 14, 15, 25, 26, 105, 106, 107, 108, 109, 110, 111, 112, 113, 114, 115, 116, 117, 118, 119, 120, 121, 52, 122, 123, 124, 56, 125, 126, 58, 127, 128, 129, 130, 59, 131, 132, 133, 134, 135, 136, 137, 138, 139, 140, 141, 142, 143, 144, 145, 146, 147, 148, 63, 149, 65, 66, 150, 71, 72, 73, 151, 152, 153, 154, 155, 187, 188, 189, 190, 191, 192, 193, 194, 195, 196, 197, 198, 199, 200, 201, 202, 203, 204, 205, 206, 207, 208, 209, 210, 211, 212] (by decide +kernel) (by decide +kernel)) (goodIn_sub (fun _ h => List.mem_cons_of_mem _ (List.mem_append_left _ (List.mem_append_left _ (List.mem_append_right _ h)))) (by decide +kernel))) (goodIn_sub (fun _ h => List.mem_cons_of_mem _ (List.mem_append_left _ (List.mem_append_right _ h))) (by decide +kernel))) (goodIn_sub (fun _ h => List.mem_cons_of_mem _ (List.mem_append_right _ h)) (by decide +kernel))
set_option maxRecDepth 20000 in
theorem gL_isMove_X5_pledge : GoodIn wsL_isMove (wsV RL 37 RX5 yX5_pledge wsX5_pledge) := goodIn_app (goodIn_of _ (by decide +kernel)) ggL_isMove_X5_pledge
set_option maxRecDepth 20000 in
theorem ggL_isMove_X5_firstStranded : GoodIn wsL_isMove wsX5_firstStranded := goodIn_ca (goodIn_ca (goodIn_r _ [159, 6, 160, 161, 162, 4, 163, 7, 8, 11, 12, 13, 14, 15, 16, 17, 18, 19, 20, 21, 22, 23, 24, 25, 26, 27, 28, 29, 164, 165, 166, 33, 167, 42, 43, 44, 45, 168, 169, 170, 171, 35, 36, 172, 173, 174, 136, 175, 143, 142, 139, 176, 177, 178, 179, 46, 47, 48, 49, 50, 51, 52, 53, 54, 55, 56, 57, 58, 59, 60, 61, 62, 63, 64, 65, 66, 67, 68, 69, 70, 71, 72, 73, 74, 75, 76, 77, 78, 79, 80, 81, 82, 83, 84, 85, 86, 87, 88, 187, 188, 189, 190, 191, 192, 193, 194, 195, 196, 197, 198, 199, 200, 201, 202, 203, 204, 205, 206, 207, 208, 209, 210, 211, 212] (by decide +kernel) (by decide +kernel)) (goodIn_sub (fun _ h => List.mem_cons_of_mem _ (List.mem_append_left _ (List.mem_append_left _ (List.mem_append_right _ h)))) (by decide +kernel))) (goodIn_sub (fun _ h => List.mem_cons_of_mem _ (List.mem_append_left _ (List.mem_append_right _ h))) (by decide +kernel))
set_option maxRecDepth 20000 in
theorem gL_isMove_X5_firstStranded : GoodIn wsL_isMove (wsV RL 86 RX5 yX5_firstStranded wsX5_firstStranded) := goodIn_app (goodIn_of _ (by decide +kernel)) ggL_isMove_X5_firstStranded
set_option maxRecDepth 20000 in
theorem ggL_isMove_X5_undo : GoodIn wsL_isMove wsX5_undo := goodIn_ca (goodIn_r _ [183, 111, 6, 112, 184, 185, 4, 186, 105, 106, 117, 118, 119, 33, 120, 50, 121, 35, 52, 122, 123, 124, 56, 125, 126, 58, 127, 128, 129, 130, 59, 131, 132, 133, 134, 135, 136, 137, 138, 139, 140, 141, 142, 143, 144, 145, 146, 147, 148, 63, 149, 65, 66, 150, 71, 72, 73, 151, 187, 188, 189, 190, 191, 192, 193, 194, 202, 203, 204, 205, 206, 195, 196, 197, 198, 199, 200, 201, 207, 208, 209, 210, 211, 212] (by decide +kernel) (by decide +kernel)) (goodIn_sub (fun _ h => List.mem_cons_of_mem _ (List.mem_append_right _ h)) (by decide +kernel))
set_option maxRecDepth 20000 in
theorem gL_isMove_X5_undo : GoodIn wsL_isMove (wsV RL 92 RX5 yX5_undo wsX5_undo) := goodIn_app (goodIn_of _ (by decide +kernel)) ggL_isMove_X5_undo
theorem dL_isMove_0 : decode cL_isMove 0 = .ok (.aload_n 0, 1) := by decide +kernel
theorem dL_isMove_1 : decode cL_isMove 1 = .ok (.iload_n 1, 1) := by decide +kernel
theorem dL_isMove_2 : decode cL_isMove 2 = .ok (.iload_n 2, 1) := by decide +kernel
theorem dL_isMove_3 : decode cL_isMove 3 = .ok (.iload_n 3, 1) := by decide +kernel
theorem dL_isMove_4 : decode cL_isMove 4 = .ok (.invokevirtual 89, 3) := by decide +kernel
theorem dL_isMove_7 : decode cL_isMove 7 = .ok (.istore 4, 2) := by decide +kernel
theorem dL_isMove_9 : decode cL_isMove 9 = .ok (.aload_n 0, 1) := by decide +kernel
theorem dL_isMove_10 : decode cL_isMove 10 = .ok (.iload_n 1, 1) := by decide +kernel
theorem dL_isMove_11 : decode cL_isMove 11 = .ok (.iload_n 2, 1) := by decide +kernel
theorem dL_isMove_12 : decode cL_isMove 12 = .ok (.iload 4, 2) := by decide +kernel
theorem dL_isMove_14 : decode cL_isMove 14 = .ok (.ifCond .ge 7, 3) := by decide +kernel
theorem dL_isMove_17 : decode cL_isMove 17 = .ok (.iload_n 3, 1) := by decide +kernel
theorem dL_isMove_18 : decode cL_isMove 18 = .ok (.goto 5, 3) := by decide +kernel
theorem dL_isMove_21 : decode cL_isMove 21 = .ok (.iload 4, 2) := by decide +kernel
theorem dL_isMove_23 : decode cL_isMove 23 = .ok (.invokevirtual 37, 3) := by decide +kernel
theorem dL_isMove_26 : decode cL_isMove 26 = .ok (.istore 5, 2) := by decide +kernel
theorem dL_isMove_28 : decode cL_isMove 28 = .ok (.aload_n 0, 1) := by decide +kernel
theorem dL_isMove_29 : decode cL_isMove 29 = .ok (.iload_n 1, 1) := by decide +kernel
theorem dL_isMove_30 : decode cL_isMove 30 = .ok (.iload_n 3, 1) := by decide +kernel
theorem dL_isMove_31 : decode cL_isMove 31 = .ok (.invokevirtual 86, 3) := by decide +kernel
theorem dL_isMove_34 : decode cL_isMove 34 = .ok (.iconst (-1), 1) := by decide +kernel
theorem dL_isMove_35 : decode cL_isMove 35 = .ok (.if_icmp .ne 7, 3) := by decide +kernel
theorem dL_isMove_38 : decode cL_isMove 38 = .ok (.iconst 1, 1) := by decide +kernel
theorem dL_isMove_39 : decode cL_isMove 39 = .ok (.goto 4, 3) := by decide +kernel
theorem dL_isMove_42 : decode cL_isMove 42 = .ok (.iconst 0, 1) := by decide +kernel
theorem dL_isMove_43 : decode cL_isMove 43 = .ok (.iload 4, 2) := by decide +kernel
theorem dL_isMove_45 : decode cL_isMove 45 = .ok (.ifCond .lt 7, 3) := by decide +kernel
theorem dL_isMove_48 : decode cL_isMove 48 = .ok (.iconst 1, 1) := by decide +kernel
theorem dL_isMove_49 : decode cL_isMove 49 = .ok (.goto 4, 3) := by decide +kernel
theorem dL_isMove_52 : decode cL_isMove 52 = .ok (.iconst 0, 1) := by decide +kernel
theorem dL_isMove_53 : decode cL_isMove 53 = .ok (.if_icmp .ne 7, 3) := by decide +kernel
theorem dL_isMove_56 : decode cL_isMove 56 = .ok (.iconst 1, 1) := by decide +kernel
theorem dL_isMove_57 : decode cL_isMove 57 = .ok (.goto 4, 3) := by decide +kernel
theorem dL_isMove_60 : decode cL_isMove 60 = .ok (.iconst 0, 1) := by decide +kernel
theorem dL_isMove_61 : decode cL_isMove 61 = .ok (.istore 6, 2) := by decide +kernel
theorem dL_isMove_63 : decode cL_isMove 63 = .ok (.aload_n 0, 1) := by decide +kernel
theorem dL_isMove_64 : decode cL_isMove 64 = .ok (.invokevirtual 92, 3) := by decide +kernel
theorem dL_isMove_67 : decode cL_isMove 67 = .ok (.istore 7, 2) := by decide +kernel
theorem dL_isMove_69 : decode cL_isMove 69 = .ok (.iload 4, 2) := by decide +kernel
theorem dL_isMove_71 : decode cL_isMove 71 = .ok (.ifCond .lt 50, 3) := by decide +kernel
theorem dL_isMove_74 : decode cL_isMove 74 = .ok (.iload 4, 2) := by decide +kernel
theorem dL_isMove_76 : decode cL_isMove 76 = .ok (.sipush 999, 3) := by decide +kernel
theorem dL_isMove_79 : decode cL_isMove 79 = .ok (.if_icmp .ge 42, 3) := by decide +kernel
theorem dL_isMove_82 : decode cL_isMove 82 = .ok (.aload_n 0, 1) := by decide +kernel
theorem dL_isMove_83 : decode cL_isMove 83 = .ok (.iload_n 1, 1) := by decide +kernel
theorem dL_isMove_84 : decode cL_isMove 84 = .ok (.iload_n 2, 1) := by decide +kernel
theorem dL_isMove_85 : decode cL_isMove 85 = .ok (.iload 4, 2) := by decide +kernel
theorem dL_isMove_87 : decode cL_isMove 87 = .ok (.iconst 1, 1) := by decide +kernel
theorem dL_isMove_88 : decode cL_isMove 88 = .ok (.iadd, 1) := by decide +kernel
theorem dL_isMove_89 : decode cL_isMove 89 = .ok (.invokevirtual 37, 3) := by decide +kernel
theorem dL_isMove_92 : decode cL_isMove 92 = .ok (.istore 5, 2) := by decide +kernel
theorem dL_isMove_94 : decode cL_isMove 94 = .ok (.iload 6, 2) := by decide +kernel
theorem dL_isMove_96 : decode cL_isMove 96 = .ok (.ifCond .eq 16, 3) := by decide +kernel
theorem dL_isMove_99 : decode cL_isMove 99 = .ok (.aload_n 0, 1) := by decide +kernel
theorem dL_isMove_100 : decode cL_isMove 100 = .ok (.iload_n 1, 1) := by decide +kernel
theorem dL_isMove_101 : decode cL_isMove 101 = .ok (.iload_n 3, 1) := by decide +kernel
theorem dL_isMove_102 : decode cL_isMove 102 = .ok (.invokevirtual 86, 3) := by decide +kernel
theorem dL_isMove_105 : decode cL_isMove 105 = .ok (.ifCond .lt 7, 3) := by decide +kernel
theorem dL_isMove_108 : decode cL_isMove 108 = .ok (.iconst 1, 1) := by decide +kernel
theorem dL_isMove_109 : decode cL_isMove 109 = .ok (.goto 4, 3) := by decide +kernel
theorem dL_isMove_112 : decode cL_isMove 112 = .ok (.iconst 0, 1) := by decide +kernel
theorem dL_isMove_113 : decode cL_isMove 113 = .ok (.istore 6, 2) := by decide +kernel
theorem dL_isMove_115 : decode cL_isMove 115 = .ok (.aload_n 0, 1) := by decide +kernel
theorem dL_isMove_116 : decode cL_isMove 116 = .ok (.invokevirtual 92, 3) := by decide +kernel
theorem dL_isMove_119 : decode cL_isMove 119 = .ok (.istore 7, 2) := by decide +kernel
theorem dL_isMove_121 : decode cL_isMove 121 = .ok (.iload 6, 2) := by decide +kernel
theorem dL_isMove_123 : decode cL_isMove 123 = .ok (.ifCond .eq 24, 3) := by decide +kernel
theorem dL_isMove_126 : decode cL_isMove 126 = .ok (.iload 4, 2) := by decide +kernel
theorem dL_isMove_128 : decode cL_isMove 128 = .ok (.iconst (-1), 1) := by decide +kernel
theorem dL_isMove_129 : decode cL_isMove 129 = .ok (.if_icmp .eq 9, 3) := by decide +kernel
theorem dL_isMove_132 : decode cL_isMove 132 = .ok (.iload 4, 2) := by decide +kernel
theorem dL_isMove_134 : decode cL_isMove 134 = .ok (.iload_n 3, 1) := by decide +kernel
theorem dL_isMove_135 : decode cL_isMove 135 = .ok (.if_icmp .lt 12, 3) := by decide +kernel
theorem dL_isMove_138 : decode cL_isMove 138 = .ok (.iload 7, 2) := by decide +kernel
theorem dL_isMove_140 : decode cL_isMove 140 = .ok (.ifCond .lt 7, 3) := by decide +kernel
theorem dL_isMove_143 : decode cL_isMove 143 = .ok (.iconst 1, 1) := by decide +kernel
theorem dL_isMove_144 : decode cL_isMove 144 = .ok (.goto 4, 3) := by decide +kernel
theorem dL_isMove_147 : decode cL_isMove 147 = .ok (.iconst 0, 1) := by decide +kernel
theorem dL_isMove_148 : decode cL_isMove 148 = .ok (.ireturn, 1) := by decide +kernel
set_option maxRecDepth 20000 in
theorem ggL_isVersion_X5_cheapest : GoodIn wsL_isVersion wsX5_cheapest := goodIn_ca (goodIn_ca (goodIn_r _ [5, 6, 7, 8, 9, 10, 11, 4, 12, 13, 14, 15, 16, 17, 18, 19, 20, 21, 22, 23, 24, 25, 26, 27, 28, 29, 30, 31, 32, 33, 34, 35, 36, 37, 38, 39, 40, 41, 42, 43, 44, 45, 46, 47, 48, 49, 50, 51, 52, 53, 54, 55, 56, 57, 58, 59, 60, 61, 62, 63, 64, 65, 66, 67, 68, 69, 70, 71, 72, 73, 74, 75, 76, 77, 78, 79, 80, 81, 82, 83, 84, 85, 86, 87, 88, 89, 90, 91, 92, 93, 94, 95, 96, 97, 98, 99, 100, 101, 102, 103, 104, 105, 106, 107, 269, 270, 271, 272, 273, 274, 275, 276, 277, 278, 279, 280, 281, 282, 283, 284, 285, 286, 287, 288, 289, 290, 291, 292, 293, 294] (by decide +kernel) (by decide +kernel)) (goodIn_sub (fun _ h => List.mem_cons_of_mem _ (List.mem_append_left _ (List.mem_append_left _ (List.mem_append_right _ h)))) (by decide +kernel))) (goodIn_sub (fun _ h => List.mem_cons_of_mem _ (List.mem_append_left _ (List.mem_append_right _ h))) (by decide +kernel))
set_option maxRecDepth 20000 in
theorem gL_isVersion_X5_cheapest : GoodIn wsL_isVersion (wsV RL 96 RX5 yX5_cheapest wsX5_cheapest) := goodIn_app (goodIn_of _ (by decide +kernel)) ggL_isVersion_X5_cheapest
set_option maxRecDepth 20000 in
theorem ggL_isVersion_X5_bestVersion : GoodIn wsL_isVersion wsX5_bestVersion := goodIn_ca (goodIn_ca (goodIn_r _ [111, 6, 7, 9, 112, 113, 114, 4, 115, 8, 10, 11, 12, 13, 14, 15, 16, 17, 21, 22, 23, 24, 25, 26, 27, 28, 29, 30, 31, 116, 117, 118, 35, 119, 37, 38, 47, 48, 49, 50, 51, 52, 53, 54, 55, 56, 57, 58, 59, 60, 61, 62, 63, 64, 65, 66, 67, 68, 69, 70, 71, 72, 73, 120, 121, 122, 123, 124, 125, 126, 269, 270, 271, 272, 273, 274, 275, 276, 277, 278, 279, 280, 281, 282, 283, 284, 285, 286, 287, 288, 289, 290, 291, 292, 293, 294] (by decide +kernel) (by decide +kernel)) (goodIn_sub (fun _ h => List.mem_cons_of_mem _ (List.mem_append_left _ (List.mem_append_left _ (List.mem_append_right _ h)))) (by decide +kernel))) (goodIn_sub (fun _ h => List.mem_cons_of_mem _ (List.mem_append_left _ (List.mem_append_right _ h))) (by decide +kernel))
set_option maxRecDepth 20000 in
theorem gL_isVersion_X5_bestVersion : GoodIn wsL_isVersion (wsV RL 99 RX5 yX5_bestVersion wsX5_bestVersion) := goodIn_app (goodIn_of _ (by decide +kernel)) ggL_isVersion_X5_bestVersion
set_option maxRecDepth 20000 in
theorem ggL_isVersion_X5_pledge : GoodIn wsL_isVersion wsX5_pledge := goodIn_ca (goodIn_ca (goodIn_ca (goodIn_r _ [130, 6, 7, 131, 132, 133, 134, 35, 135, 80, 81, 37, 38, 16, 4, 17, 30, 31, 136, 137, 138, 13, 14, 27, 28, 139, 140, 141, 142, 143, 144, 145, 146, 147, 148, 149, 150, 151, 152, 153, 154, 100, 52, 155, 156, 157, 56, 158, 159, 58, 160, 161, 162, 163, 59, 164, 165, 166, 167, 168, 169, 170, 171, 172, 173, 174, 175, 176, 177, 178, 179, 180, 181, 63, 182, 65, 66, 183, 71, 72, 73, 107, 184, 185, 186, 187, 269, 270, 271, 272, 273, 274, 275, 276, 277, 278, 279, 280, 281, 282, 283, 284, 285, 286, 287, 288, 289, 290, 291, 292, 293, 294] (by decide +kernel) (by decide +kernel)) (goodIn_sub (fun _ h => List.mem_cons_of_mem _ (List.mem_append_left _ (List.mem_append_left _ (List.mem_append_right _ h)))) (by decide +kernel))) (goodIn_sub (fun _ h => List.mem_cons_of_mem _ (List.mem_append_left _ (List.mem_append_right _ h))) (by decide +kernel))) (goodIn_sub (fun _ h => List.mem_cons_of_mem _ (List.mem_append_right _ h)) (by decide +kernel))
set_option maxRecDepth 20000 in
theorem gL_isVersion_X5_pledge : GoodIn wsL_isVersion (wsV RL 37 RX5 yX5_pledge wsX5_pledge) := goodIn_app (goodIn_of _ (by decide +kernel)) ggL_isVersion_X5_pledge
set_option maxRecDepth 20000 in
theorem ggL_isVersion_X5_firstStranded : GoodIn wsL_isVersion wsX5_firstStranded := goodIn_ca (goodIn_ca (goodIn_r _ [191, 6, 112, 113, 114, 4, 115, 7, 8, 10, 11, 12, 13, 14, 15, 16, 17, 21, 22, 23, 24, 25, 26, 27, 28, 29, 30, 31, 192, 193, 194, 35, 195, 43, 44, 45, 46, 196, 197, 198, 199, 80, 200, 201, 202, 203, 169, 204, 176, 175, 172, 205, 206, 207, 208, 47, 48, 49, 50, 37, 51, 52, 53, 54, 55, 56, 57, 58, 59, 60, 61, 62, 63, 64, 65, 66, 67, 68, 69, 70, 71, 72, 73, 74, 75, 76, 77, 38, 78, 79, 81, 82, 83, 84, 85, 86, 87, 88, 269, 270, 271, 272, 273, 274, 275, 276, 277, 278, 279, 280, 281, 282, 283, 284, 285, 286, 287, 288, 289, 290, 291, 292, 293, 294] (by decide +kernel) (by decide +kernel)) (goodIn_sub (fun _ h => List.mem_cons_of_mem _ (List.mem_append_left _ (List.mem_append_left _ (List.mem_append_right _ h)))) (by decide +kernel))) (goodIn_sub (fun _ h => List.mem_cons_of_mem _ (List.mem_append_left _ (List.mem_append_right _ h))) (by decide +kernel))
set_option maxRecDepth 20000 in
theorem gL_isVersion_X5_firstStranded : GoodIn wsL_isVersion (wsV RL 86 RX5 yX5_firstStranded wsX5_firstStranded) := goodIn_app (goodIn_of _ (by decide +kernel)) ggL_isVersion_X5_firstStranded
set_option maxRecDepth 20000 in
theorem ggL_isVersion_X5_undo : GoodIn wsL_isVersion wsX5_undo := goodIn_ca (goodIn_r _ [212, 145, 6, 146, 213, 214, 4, 215, 139, 140, 151, 152, 153, 35, 154, 37, 100, 80, 52, 155, 156, 157, 56, 158, 159, 58, 160, 161, 162, 163, 59, 164, 165, 166, 167, 168, 169, 170, 171, 172, 173, 174, 175, 176, 177, 178, 179, 180, 181, 63, 182, 65, 66, 183, 71, 72, 73, 107, 269, 270, 271, 272, 273, 274, 275, 276, 284, 285, 286, 287, 288, 277, 278, 279, 280, 281, 282, 283, 289, 290, 291, 292, 293, 294] (by decide +kernel) (by decide +kernel)) (goodIn_sub (fun _ h => List.mem_cons_of_mem _ (List.mem_append_right _ h)) (by decide +kernel))
set_option maxRecDepth 20000 in
theorem gL_isVersion_X5_undo : GoodIn wsL_isVersion (wsV RL 92 RX5 yX5_undo wsX5_undo) := goodIn_app (goodIn_of _ (by decide +kernel)) ggL_isVersion_X5_undo
set_option maxRecDepth 20000 in
theorem ggL_isVersion_X5_value : GoodIn wsL_isVersion wsX5_value := goodIn_ca (goodIn_r _ [219, 6, 24, 25, 4, 26, 27, 28, 29, 30, 31, 220, 221, 222, 35, 223, 37, 38, 100, 80, 81, 52, 83, 224, 225, 226, 169, 227, 171, 205, 206, 207, 208, 175, 228, 229, 230, 231, 174, 232, 121, 122, 123, 124, 125, 126, 233, 234, 235, 236, 177, 237, 238, 239, 240, 43, 44, 45, 46, 74, 75, 76, 77, 78, 79, 82, 84, 85, 86, 87, 88, 241, 242, 243, 244, 196, 197, 198, 199, 200, 201, 202, 203, 204, 176, 172, 47, 48, 49, 50, 51, 53, 54, 55, 56, 57, 58, 59, 60, 61, 62, 63, 64, 65, 66, 67, 68, 69, 70, 71, 72, 73, 269, 270, 271, 272, 273, 274, 275, 276, 284, 285, 286, 287, 288, 277, 278, 279, 280, 281, 282, 283, 289, 290, 291, 292, 293, 294] (by decide +kernel) (by decide +kernel)) (goodIn_sub (fun _ h => List.mem_cons_of_mem _ (List.mem_append_left _ (List.mem_append_right _ h))) (by decide +kernel))
set_option maxRecDepth 20000 in
theorem gL_isVersion_X5_value : GoodIn wsL_isVersion (wsV RL 9 RX5 yX5_value wsX5_value) := goodIn_app (goodIn_of _ (by decide +kernel)) ggL_isVersion_X5_value
set_option maxRecDepth 20000 in
theorem ggL_isVersion_X5_version : GoodIn wsL_isVersion wsX5_version := goodIn_ca (goodIn_ca (goodIn_r _ [248, 6, 249, 250, 10, 11, 4, 12, 13, 14, 15, 16, 17, 24, 25, 26, 27, 28, 29, 30, 31, 251, 252, 253, 35, 254, 37, 78, 79, 51, 255, 52, 256, 257, 258, 63, 259, 65, 71, 269, 270, 271, 272, 273, 274, 275, 276, 284, 285, 286, 287, 288, 289, 290, 291, 292, 293, 294] (by decide +kernel) (by decide +kernel)) (goodIn_sub (fun _ h => List.mem_cons_of_mem _ (List.mem_append_left _ (List.mem_append_left _ (List.mem_append_right _ h)))) (by decide +kernel))) (goodIn_sub (fun _ h => List.mem_cons_of_mem _ (List.mem_append_left _ (List.mem_append_right _ h))) (by decide +kernel))
set_option maxRecDepth 20000 in
theorem gL_isVersion_X5_version : GoodIn wsL_isVersion (wsV RL 27 RX5 yX5_version wsX5_version) := goodIn_app (goodIn_of _ (by decide +kernel)) ggL_isVersion_X5_version
set_option maxRecDepth 20000 in
theorem ggL_isVersion_X5_missing : GoodIn wsL_isVersion wsX5_missing := goodIn_ca (goodIn_ca (goodIn_r _ [263, 6, 112, 113, 114, 4, 115, 7, 8, 10, 11, 12, 13, 14, 15, 16, 17, 21, 22, 23, 24, 25, 26, 27, 28, 29, 30, 31, 264, 197, 198, 35, 199, 80, 200, 201, 202, 203, 169, 204, 176, 175, 172, 205, 206, 207, 208, 47, 48, 49, 50, 37, 51, 52, 53, 54, 55, 56, 57, 58, 59, 60, 61, 62, 63, 64, 65, 66, 67, 68, 69, 70, 71, 72, 73, 269, 270, 271, 272, 273, 274, 275, 276, 277, 278, 279, 280, 281, 282, 283, 284, 285, 286, 287, 288, 289, 290, 291, 292, 293, 294] (by decide +kernel) (by decide +kernel)) (goodIn_sub (fun _ h => List.mem_cons_of_mem _ (List.mem_append_left _ (List.mem_append_left _ (List.mem_append_right _ h)))) (by decide +kernel))) (goodIn_sub (fun _ h => List.mem_cons_of_mem _ (List.mem_append_left _ (List.mem_append_right _ h))) (by decide +kernel))
set_option maxRecDepth 20000 in
theorem gL_isVersion_X5_missing : GoodIn wsL_isVersion (wsV RL 66 RX5 yX5_missing wsX5_missing) := goodIn_app (goodIn_of _ (by decide +kernel)) ggL_isVersion_X5_missing
set_option maxRecDepth 20000 in
theorem ggL_isVersion_L_bits : GoodIn wsL_isVersion wsL_bits := goodIn_r _ [268] (by decide +kernel) (by decide +kernel)
set_option maxRecDepth 20000 in
theorem gL_isVersion_L_bits : GoodIn wsL_isVersion (va_wsS RL 72 yL_bits wsL_bits) := goodIn_app (goodIn_of _ (by decide +kernel)) ggL_isVersion_L_bits
theorem dL_isVersion_0 : decode cL_isVersion 0 = .ok (.aload_n 0, 1) := by decide +kernel
theorem dL_isVersion_1 : decode cL_isVersion 1 = .ok (.iload_n 1, 1) := by decide +kernel
theorem dL_isVersion_2 : decode cL_isVersion 2 = .ok (.iload_n 2, 1) := by decide +kernel
theorem dL_isVersion_3 : decode cL_isVersion 3 = .ok (.iload_n 3, 1) := by decide +kernel
theorem dL_isVersion_4 : decode cL_isVersion 4 = .ok (.invokevirtual 96, 3) := by decide +kernel
theorem dL_isVersion_7 : decode cL_isVersion 7 = .ok (.istore 4, 2) := by decide +kernel
theorem dL_isVersion_9 : decode cL_isVersion 9 = .ok (.aload_n 0, 1) := by decide +kernel
theorem dL_isVersion_10 : decode cL_isVersion 10 = .ok (.iload_n 1, 1) := by decide +kernel
theorem dL_isVersion_11 : decode cL_isVersion 11 = .ok (.iload_n 2, 1) := by decide +kernel
theorem dL_isVersion_12 : decode cL_isVersion 12 = .ok (.invokevirtual 99, 3) := by decide +kernel
theorem dL_isVersion_15 : decode cL_isVersion 15 = .ok (.istore 5, 2) := by decide +kernel
theorem dL_isVersion_17 : decode cL_isVersion 17 = .ok (.iconst 1, 1) := by decide +kernel
theorem dL_isVersion_18 : decode cL_isVersion 18 = .ok (.istore 6, 2) := by decide +kernel
theorem dL_isVersion_20 : decode cL_isVersion 20 = .ok (.iload 4, 2) := by decide +kernel
theorem dL_isVersion_22 : decode cL_isVersion 22 = .ok (.ifCond .lt 46, 3) := by decide +kernel
theorem dL_isVersion_25 : decode cL_isVersion 25 = .ok (.aload_n 0, 1) := by decide +kernel
theorem dL_isVersion_26 : decode cL_isVersion 26 = .ok (.iload_n 1, 1) := by decide +kernel
theorem dL_isVersion_27 : decode cL_isVersion 27 = .ok (.iload 4, 2) := by decide +kernel
theorem dL_isVersion_29 : decode cL_isVersion 29 = .ok (.iload_n 2, 1) := by decide +kernel
theorem dL_isVersion_30 : decode cL_isVersion 30 = .ok (.invokevirtual 37, 3) := by decide +kernel
theorem dL_isVersion_33 : decode cL_isVersion 33 = .ok (.istore 7, 2) := by decide +kernel
theorem dL_isVersion_35 : decode cL_isVersion 35 = .ok (.aload_n 0, 1) := by decide +kernel
theorem dL_isVersion_36 : decode cL_isVersion 36 = .ok (.iload_n 1, 1) := by decide +kernel
theorem dL_isVersion_37 : decode cL_isVersion 37 = .ok (.iload_n 2, 1) := by decide +kernel
theorem dL_isVersion_38 : decode cL_isVersion 38 = .ok (.invokevirtual 86, 3) := by decide +kernel
theorem dL_isVersion_41 : decode cL_isVersion 41 = .ok (.istore 8, 2) := by decide +kernel
theorem dL_isVersion_43 : decode cL_isVersion 43 = .ok (.aload_n 0, 1) := by decide +kernel
theorem dL_isVersion_44 : decode cL_isVersion 44 = .ok (.invokevirtual 92, 3) := by decide +kernel
theorem dL_isVersion_47 : decode cL_isVersion 47 = .ok (.istore 7, 2) := by decide +kernel
theorem dL_isVersion_49 : decode cL_isVersion 49 = .ok (.iload 8, 2) := by decide +kernel
theorem dL_isVersion_51 : decode cL_isVersion 51 = .ok (.iconst (-1), 1) := by decide +kernel
theorem dL_isVersion_52 : decode cL_isVersion 52 = .ok (.if_icmp .eq 9, 3) := by decide +kernel
theorem dL_isVersion_55 : decode cL_isVersion 55 = .ok (.iload 8, 2) := by decide +kernel
theorem dL_isVersion_57 : decode cL_isVersion 57 = .ok (.iload_n 3, 1) := by decide +kernel
theorem dL_isVersion_58 : decode cL_isVersion 58 = .ok (.if_icmp .le 7, 3) := by decide +kernel
theorem dL_isVersion_61 : decode cL_isVersion 61 = .ok (.iconst 1, 1) := by decide +kernel
theorem dL_isVersion_62 : decode cL_isVersion 62 = .ok (.goto 4, 3) := by decide +kernel
theorem dL_isVersion_65 : decode cL_isVersion 65 = .ok (.iconst 0, 1) := by decide +kernel
theorem dL_isVersion_66 : decode cL_isVersion 66 = .ok (.istore 6, 2) := by decide +kernel
theorem dL_isVersion_68 : decode cL_isVersion 68 = .ok (.bipush 100, 2) := by decide +kernel
theorem dL_isVersion_70 : decode cL_isVersion 70 = .ok (.istore 7, 2) := by decide +kernel
theorem dL_isVersion_72 : decode cL_isVersion 72 = .ok (.iconst (-1), 1) := by decide +kernel
theorem dL_isVersion_73 : decode cL_isVersion 73 = .ok (.istore 8, 2) := by decide +kernel
theorem dL_isVersion_75 : decode cL_isVersion 75 = .ok (.aload_n 0, 1) := by decide +kernel
theorem dL_isVersion_76 : decode cL_isVersion 76 = .ok (.iconst 0, 1) := by decide +kernel
theorem dL_isVersion_77 : decode cL_isVersion 77 = .ok (.invokevirtual 9, 3) := by decide +kernel
theorem dL_isVersion_80 : decode cL_isVersion 80 = .ok (.iconst 1, 1) := by decide +kernel
theorem dL_isVersion_81 : decode cL_isVersion 81 = .ok (.isub, 1) := by decide +kernel
theorem dL_isVersion_82 : decode cL_isVersion 82 = .ok (.istore 9, 2) := by decide +kernel
theorem dL_isVersion_84 : decode cL_isVersion 84 = .ok (.iload 9, 2) := by decide +kernel
theorem dL_isVersion_86 : decode cL_isVersion 86 = .ok (.ifCond .lt 90, 3) := by decide +kernel
theorem dL_isVersion_89 : decode cL_isVersion 89 = .ok (.iload_n 2, 1) := by decide +kernel
theorem dL_isVersion_90 : decode cL_isVersion 90 = .ok (.aload_n 0, 1) := by decide +kernel
theorem dL_isVersion_91 : decode cL_isVersion 91 = .ok (.iload 9, 2) := by decide +kernel
theorem dL_isVersion_93 : decode cL_isVersion 93 = .ok (.iconst 0, 1) := by decide +kernel
theorem dL_isVersion_94 : decode cL_isVersion 94 = .ok (.invokevirtual 27, 3) := by decide +kernel
theorem dL_isVersion_97 : decode cL_isVersion 97 = .ok (.if_icmp .lt 73, 3) := by decide +kernel
theorem dL_isVersion_100 : decode cL_isVersion 100 = .ok (.iload_n 2, 1) := by decide +kernel
theorem dL_isVersion_101 : decode cL_isVersion 101 = .ok (.aload_n 0, 1) := by decide +kernel
theorem dL_isVersion_102 : decode cL_isVersion 102 = .ok (.iload 9, 2) := by decide +kernel
theorem dL_isVersion_104 : decode cL_isVersion 104 = .ok (.iconst 1, 1) := by decide +kernel
theorem dL_isVersion_105 : decode cL_isVersion 105 = .ok (.invokevirtual 27, 3) := by decide +kernel
theorem dL_isVersion_108 : decode cL_isVersion 108 = .ok (.if_icmp .ge 62, 3) := by decide +kernel
theorem dL_isVersion_111 : decode cL_isVersion 111 = .ok (.aload_n 0, 1) := by decide +kernel
theorem dL_isVersion_112 : decode cL_isVersion 112 = .ok (.iload_n 1, 1) := by decide +kernel
theorem dL_isVersion_113 : decode cL_isVersion 113 = .ok (.iload 9, 2) := by decide +kernel
theorem dL_isVersion_115 : decode cL_isVersion 115 = .ok (.iload_n 2, 1) := by decide +kernel
theorem dL_isVersion_116 : decode cL_isVersion 116 = .ok (.invokevirtual 37, 3) := by decide +kernel
theorem dL_isVersion_119 : decode cL_isVersion 119 = .ok (.istore 10, 2) := by decide +kernel
theorem dL_isVersion_121 : decode cL_isVersion 121 = .ok (.aload_n 0, 1) := by decide +kernel
theorem dL_isVersion_122 : decode cL_isVersion 122 = .ok (.iload_n 1, 1) := by decide +kernel
theorem dL_isVersion_123 : decode cL_isVersion 123 = .ok (.iload_n 2, 1) := by decide +kernel
theorem dL_isVersion_124 : decode cL_isVersion 124 = .ok (.invokevirtual 66, 3) := by decide +kernel
theorem dL_isVersion_127 : decode cL_isVersion 127 = .ok (.invokestatic 72, 3) := by decide +kernel
theorem dL_isVersion_130 : decode cL_isVersion 130 = .ok (.istore 11, 2) := by decide +kernel
theorem dL_isVersion_132 : decode cL_isVersion 132 = .ok (.aload_n 0, 1) := by decide +kernel
theorem dL_isVersion_133 : decode cL_isVersion 133 = .ok (.invokevirtual 92, 3) := by decide +kernel
theorem dL_isVersion_136 : decode cL_isVersion 136 = .ok (.istore 10, 2) := by decide +kernel
theorem dL_isVersion_138 : decode cL_isVersion 138 = .ok (.iload 11, 2) := by decide +kernel
theorem dL_isVersion_140 : decode cL_isVersion 140 = .ok (.iload 7, 2) := by decide +kernel
theorem dL_isVersion_142 : decode cL_isVersion 142 = .ok (.if_icmp .gt 8, 3) := by decide +kernel
theorem dL_isVersion_145 : decode cL_isVersion 145 = .ok (.iload 9, 2) := by decide +kernel
theorem dL_isVersion_147 : decode cL_isVersion 147 = .ok (.goto 5, 3) := by decide +kernel
theorem dL_isVersion_150 : decode cL_isVersion 150 = .ok (.iload 8, 2) := by decide +kernel
theorem dL_isVersion_152 : decode cL_isVersion 152 = .ok (.istore 8, 2) := by decide +kernel
theorem dL_isVersion_154 : decode cL_isVersion 154 = .ok (.iload 11, 2) := by decide +kernel
theorem dL_isVersion_156 : decode cL_isVersion 156 = .ok (.iload 7, 2) := by decide +kernel
theorem dL_isVersion_158 : decode cL_isVersion 158 = .ok (.if_icmp .gt 8, 3) := by decide +kernel
theorem dL_isVersion_161 : decode cL_isVersion 161 = .ok (.iload 11, 2) := by decide +kernel
theorem dL_isVersion_163 : decode cL_isVersion 163 = .ok (.goto 5, 3) := by decide +kernel
theorem dL_isVersion_166 : decode cL_isVersion 166 = .ok (.iload 7, 2) := by decide +kernel
theorem dL_isVersion_168 : decode cL_isVersion 168 = .ok (.istore 7, 2) := by decide +kernel
theorem dL_isVersion_170 : decode cL_isVersion 170 = .ok (.iinc 9 (-1), 3) := by decide +kernel
theorem dL_isVersion_173 : decode cL_isVersion 173 = .ok (.goto (-89), 3) := by decide +kernel
theorem dL_isVersion_176 : decode cL_isVersion 176 = .ok (.iload 6, 2) := by decide +kernel
theorem dL_isVersion_178 : decode cL_isVersion 178 = .ok (.ifCond .eq 14, 3) := by decide +kernel
theorem dL_isVersion_181 : decode cL_isVersion 181 = .ok (.iload 5, 2) := by decide +kernel
theorem dL_isVersion_183 : decode cL_isVersion 183 = .ok (.iload 8, 2) := by decide +kernel
theorem dL_isVersion_185 : decode cL_isVersion 185 = .ok (.if_icmp .ne 7, 3) := by decide +kernel
theorem dL_isVersion_188 : decode cL_isVersion 188 = .ok (.iconst 1, 1) := by decide +kernel
theorem dL_isVersion_189 : decode cL_isVersion 189 = .ok (.goto 4, 3) := by decide +kernel
theorem dL_isVersion_192 : decode cL_isVersion 192 = .ok (.iconst 0, 1) := by decide +kernel
theorem dL_isVersion_193 : decode cL_isVersion 193 = .ok (.ireturn, 1) := by decide +kernel
set_option maxRecDepth 20000 in
theorem ggL_areAlike_X5_costs : GoodIn wsL_areAlike wsX5_costs := goodIn_ca (goodIn_r _ [5, 6, 7, 8, 4, 9, 10, 11, 12, 13, 14, 15, 16, 17, 18, 19, 20, 21, 22, 23, 24, 25, 26, 27, 28, 29, 30, 31, 32, 33, 34, 35, 36, 37, 38, 39, 40, 41, 42, 43, 44, 45, 46, 47, 48, 49, 50, 51, 52, 53, 54, 55, 56, 57, 58, 59, 60, 61, 62, 63, 64, 65, 66, 67, 68, 69, 70, 71, 72, 73, 74, 75, 76, 77, 78, 79, 80, 81, 82, 83, 84, 85, 86, 87, 88, 89, 90, 91, 92, 93, 94, 95, 96, 97, 192, 193, 194, 195, 196, 197, 198, 199, 200, 201, 202, 203, 204, 205, 206, 207, 208, 209, 210, 211, 212, 213, 214, 215, 216, 217] (by decide +kernel) (by decide +kernel)) (goodIn_sub (fun _ h => List.mem_cons_of_mem _ (List.mem_append_left _ (List.mem_append_right _ h))) (by decide +kernel))
set_option maxRecDepth 20000 in
theorem gL_areAlike_X5_costs : GoodIn wsL_areAlike (wsV RL 102 RX5 yX5_costs wsX5_costs) := goodIn_app (goodIn_of _ (by decide +kernel)) ggL_areAlike_X5_costs
set_option maxRecDepth 20000 in
theorem ggL_areAlike_X5_value : GoodIn wsL_areAlike wsX5_value := goodIn_ca (goodIn_r _ [101, 6, 13, 14, 4, 15, 16, 17, 18, 19, 20, 102, 103, 104, 24, 105, 37, 38, 73, 41, 42, 44, 45, 106, 107, 108, 59, 109, 110, 64, 65, 66, 67, 62, 111, 112, 113, 114, 115, 116, 117, 118, 119, 120, 121, 122, 123, 124, 125, 126, 127, 128, 129, 130, 131, 30, 31, 28, 32, 33, 34, 35, 36, 39, 40, 43, 46, 47, 48, 49, 50, 132, 133, 134, 135, 136, 137, 138, 139, 55, 56, 57, 58, 60, 61, 63, 140, 141, 142, 143, 72, 74, 75, 76, 77, 78, 79, 80, 144, 145, 146, 86, 147, 88, 89, 91, 92, 93, 94, 95, 96, 97, 192, 193, 194, 195, 196, 197, 198, 199, 200, 201, 202, 203, 204, 205, 206, 207, 208, 209, 210, 211, 212, 213, 214, 215, 216, 217] (by decide +kernel) (by decide +kernel)) (goodIn_sub (fun _ h => List.mem_cons_of_mem _ (List.mem_append_left _ (List.mem_append_right _ h))) (by decide +kernel))
set_option maxRecDepth 20000 in
theorem gL_areAlike_X5_value : GoodIn wsL_areAlike (wsV RL 9 RX5 yX5_value wsX5_value) := goodIn_app (goodIn_of _ (by decide +kernel)) ggL_areAlike_X5_value
set_option maxRecDepth 20000 in
theorem ggL_areAlike_X5_version : GoodIn wsL_areAlike wsX5_version := goodIn_ca (goodIn_ca (goodIn_r _ [151, 6, 152, 153, 154, 155, 4, 156, 157, 158, 159, 160, 161, 13, 14, 15, 16, 17, 18, 19, 20, 162, 163, 164, 24, 165, 37, 39, 40, 72, 166, 44, 167, 168, 169, 86, 170, 88, 95, 192, 193, 194, 195, 196, 197, 198, 199, 200, 201, 202, 203, 204, 212, 213, 214, 215, 216, 217] (by decide +kernel) (by decide +kernel)) (goodIn_sub (fun _ h => List.mem_cons_of_mem _ (List.mem_append_right _ h)) (by decide +kernel))) (goodIn_sub (fun _ h => List.mem_cons_of_mem _ (List.mem_append_left _ (List.mem_append_right _ h))) (by decide +kernel))
set_option maxRecDepth 20000 in
theorem gL_areAlike_X5_version : GoodIn wsL_areAlike (wsV RL 27 RX5 yX5_version wsX5_version) := goodIn_app (goodIn_of _ (by decide +kernel)) ggL_areAlike_X5_version
set_option maxRecDepth 20000 in
theorem ggL_areAlike_X5_user : GoodIn wsL_areAlike wsX5_user := goodIn_ca (goodIn_ca (goodIn_r _ [174, 6, 175, 176, 154, 155, 4, 156, 157, 158, 159, 160, 161, 13, 14, 15, 16, 17, 18, 19, 20, 177, 178, 179, 59, 180, 63, 115, 62, 61, 127, 181, 192, 193, 194, 195, 196, 197, 198, 199, 205, 206, 207, 208, 209, 210, 211] (by decide +kernel) (by decide +kernel)) (goodIn_sub (fun _ h => List.mem_cons_of_mem _ (List.mem_append_right _ h)) (by decide +kernel))) (goodIn_sub (fun _ h => List.mem_cons_of_mem _ (List.mem_append_left _ (List.mem_append_right _ h))) (by decide +kernel))
set_option maxRecDepth 20000 in
theorem gL_areAlike_X5_user : GoodIn wsL_areAlike (wsV RL 41 RX5 yX5_user wsX5_user) := goodIn_app (goodIn_of _ (by decide +kernel)) ggL_areAlike_X5_user
set_option maxRecDepth 20000 in
theorem ggL_areAlike_X5_shim : GoodIn wsL_areAlike wsX5_shim := goodIn_ca (goodIn_ca (goodIn_r _ [185, 6, 186, 187, 154, 155, 4, 156, 157, 158, 159, 160, 161, 13, 14, 15, 16, 17, 18, 19, 20, 188, 189, 190, 86, 191, 89, 95, 96, 97, 90, 192, 193, 194, 195, 196, 197, 198, 199, 212, 213, 214, 215, 216, 217] (by decide +kernel) (by decide +kernel)) (goodIn_sub (fun _ h => List.mem_cons_of_mem _ (List.mem_append_right _ h)) (by decide +kernel))) (goodIn_sub (fun _ h => List.mem_cons_of_mem _ (List.mem_append_left _ (List.mem_append_right _ h))) (by decide +kernel))
set_option maxRecDepth 20000 in
theorem gL_areAlike_X5_shim : GoodIn wsL_areAlike (wsV RL 105 RX5 yX5_shim wsX5_shim) := goodIn_app (goodIn_of _ (by decide +kernel)) ggL_areAlike_X5_shim
theorem dL_areAlike_0 : decode cL_areAlike 0 = .ok (.aload_n 0, 1) := by decide +kernel
theorem dL_areAlike_1 : decode cL_areAlike 1 = .ok (.iconst 0, 1) := by decide +kernel
theorem dL_areAlike_2 : decode cL_areAlike 2 = .ok (.sipush 999, 3) := by decide +kernel
theorem dL_areAlike_5 : decode cL_areAlike 5 = .ok (.invokevirtual 102, 3) := by decide +kernel
theorem dL_areAlike_8 : decode cL_areAlike 8 = .ok (.aload_n 1, 1) := by decide +kernel
theorem dL_areAlike_9 : decode cL_areAlike 9 = .ok (.iconst 0, 1) := by decide +kernel
theorem dL_areAlike_10 : decode cL_areAlike 10 = .ok (.sipush 999, 3) := by decide +kernel
theorem dL_areAlike_13 : decode cL_areAlike 13 = .ok (.invokevirtual 102, 3) := by decide +kernel
theorem dL_areAlike_16 : decode cL_areAlike 16 = .ok (.if_icmp .ne 7, 3) := by decide +kernel
theorem dL_areAlike_19 : decode cL_areAlike 19 = .ok (.iconst 1, 1) := by decide +kernel
theorem dL_areAlike_20 : decode cL_areAlike 20 = .ok (.goto 4, 3) := by decide +kernel
theorem dL_areAlike_23 : decode cL_areAlike 23 = .ok (.iconst 0, 1) := by decide +kernel
theorem dL_areAlike_24 : decode cL_areAlike 24 = .ok (.istore_n 2, 1) := by decide +kernel
theorem dL_areAlike_25 : decode cL_areAlike 25 = .ok (.iconst 0, 1) := by decide +kernel
theorem dL_areAlike_26 : decode cL_areAlike 26 = .ok (.istore_n 3, 1) := by decide +kernel
theorem dL_areAlike_27 : decode cL_areAlike 27 = .ok (.iload_n 3, 1) := by decide +kernel
theorem dL_areAlike_28 : decode cL_areAlike 28 = .ok (.bipush 8, 2) := by decide +kernel
theorem dL_areAlike_30 : decode cL_areAlike 30 = .ok (.if_icmp .ge 32, 3) := by decide +kernel
theorem dL_areAlike_33 : decode cL_areAlike 33 = .ok (.iload_n 2, 1) := by decide +kernel
theorem dL_areAlike_34 : decode cL_areAlike 34 = .ok (.ifCond .eq 20, 3) := by decide +kernel
theorem dL_areAlike_37 : decode cL_areAlike 37 = .ok (.aload_n 0, 1) := by decide +kernel
theorem dL_areAlike_38 : decode cL_areAlike 38 = .ok (.iload_n 3, 1) := by decide +kernel
theorem dL_areAlike_39 : decode cL_areAlike 39 = .ok (.invokevirtual 9, 3) := by decide +kernel
theorem dL_areAlike_42 : decode cL_areAlike 42 = .ok (.aload_n 1, 1) := by decide +kernel
theorem dL_areAlike_43 : decode cL_areAlike 43 = .ok (.iload_n 3, 1) := by decide +kernel
theorem dL_areAlike_44 : decode cL_areAlike 44 = .ok (.invokevirtual 9, 3) := by decide +kernel
theorem dL_areAlike_47 : decode cL_areAlike 47 = .ok (.if_icmp .ne 7, 3) := by decide +kernel
theorem dL_areAlike_50 : decode cL_areAlike 50 = .ok (.iconst 1, 1) := by decide +kernel
theorem dL_areAlike_51 : decode cL_areAlike 51 = .ok (.goto 4, 3) := by decide +kernel
theorem dL_areAlike_54 : decode cL_areAlike 54 = .ok (.iconst 0, 1) := by decide +kernel
theorem dL_areAlike_55 : decode cL_areAlike 55 = .ok (.istore_n 2, 1) := by decide +kernel
theorem dL_areAlike_56 : decode cL_areAlike 56 = .ok (.iinc 3 1, 3) := by decide +kernel
theorem dL_areAlike_59 : decode cL_areAlike 59 = .ok (.goto (-32), 3) := by decide +kernel
theorem dL_areAlike_62 : decode cL_areAlike 62 = .ok (.iconst 0, 1) := by decide +kernel
theorem dL_areAlike_63 : decode cL_areAlike 63 = .ok (.istore_n 3, 1) := by decide +kernel
theorem dL_areAlike_64 : decode cL_areAlike 64 = .ok (.iload_n 3, 1) := by decide +kernel
theorem dL_areAlike_65 : decode cL_areAlike 65 = .ok (.aload_n 0, 1) := by decide +kernel
theorem dL_areAlike_66 : decode cL_areAlike 66 = .ok (.iconst 0, 1) := by decide +kernel
theorem dL_areAlike_67 : decode cL_areAlike 67 = .ok (.invokevirtual 9, 3) := by decide +kernel
theorem dL_areAlike_70 : decode cL_areAlike 70 = .ok (.if_icmp .ge 51, 3) := by decide +kernel
theorem dL_areAlike_73 : decode cL_areAlike 73 = .ok (.iconst 0, 1) := by decide +kernel
theorem dL_areAlike_74 : decode cL_areAlike 74 = .ok (.istore 4, 2) := by decide +kernel
theorem dL_areAlike_76 : decode cL_areAlike 76 = .ok (.iload 4, 2) := by decide +kernel
theorem dL_areAlike_78 : decode cL_areAlike 78 = .ok (.iconst 5, 1) := by decide +kernel
theorem dL_areAlike_79 : decode cL_areAlike 79 = .ok (.if_icmp .ge 36, 3) := by decide +kernel
theorem dL_areAlike_82 : decode cL_areAlike 82 = .ok (.iload_n 2, 1) := by decide +kernel
theorem dL_areAlike_83 : decode cL_areAlike 83 = .ok (.ifCond .eq 24, 3) := by decide +kernel
theorem dL_areAlike_86 : decode cL_areAlike 86 = .ok (.aload_n 0, 1) := by decide +kernel
theorem dL_areAlike_87 : decode cL_areAlike 87 = .ok (.iload_n 3, 1) := by decide +kernel
theorem dL_areAlike_88 : decode cL_areAlike 88 = .ok (.iload 4, 2) := by decide +kernel
theorem dL_areAlike_90 : decode cL_areAlike 90 = .ok (.invokevirtual 27, 3) := by decide +kernel
theorem dL_areAlike_93 : decode cL_areAlike 93 = .ok (.aload_n 1, 1) := by decide +kernel
theorem dL_areAlike_94 : decode cL_areAlike 94 = .ok (.iload_n 3, 1) := by decide +kernel
theorem dL_areAlike_95 : decode cL_areAlike 95 = .ok (.iload 4, 2) := by decide +kernel
theorem dL_areAlike_97 : decode cL_areAlike 97 = .ok (.invokevirtual 27, 3) := by decide +kernel
theorem dL_areAlike_100 : decode cL_areAlike 100 = .ok (.if_icmp .ne 7, 3) := by decide +kernel
theorem dL_areAlike_103 : decode cL_areAlike 103 = .ok (.iconst 1, 1) := by decide +kernel
theorem dL_areAlike_104 : decode cL_areAlike 104 = .ok (.goto 4, 3) := by decide +kernel
theorem dL_areAlike_107 : decode cL_areAlike 107 = .ok (.iconst 0, 1) := by decide +kernel
theorem dL_areAlike_108 : decode cL_areAlike 108 = .ok (.istore_n 2, 1) := by decide +kernel
theorem dL_areAlike_109 : decode cL_areAlike 109 = .ok (.iinc 4 1, 3) := by decide +kernel
theorem dL_areAlike_112 : decode cL_areAlike 112 = .ok (.goto (-36), 3) := by decide +kernel
theorem dL_areAlike_115 : decode cL_areAlike 115 = .ok (.iinc 3 1, 3) := by decide +kernel
theorem dL_areAlike_118 : decode cL_areAlike 118 = .ok (.goto (-54), 3) := by decide +kernel
theorem dL_areAlike_121 : decode cL_areAlike 121 = .ok (.iconst 0, 1) := by decide +kernel
theorem dL_areAlike_122 : decode cL_areAlike 122 = .ok (.istore_n 3, 1) := by decide +kernel
theorem dL_areAlike_123 : decode cL_areAlike 123 = .ok (.iload_n 3, 1) := by decide +kernel
theorem dL_areAlike_124 : decode cL_areAlike 124 = .ok (.aload_n 0, 1) := by decide +kernel
theorem dL_areAlike_125 : decode cL_areAlike 125 = .ok (.iconst 2, 1) := by decide +kernel
theorem dL_areAlike_126 : decode cL_areAlike 126 = .ok (.invokevirtual 9, 3) := by decide +kernel
theorem dL_areAlike_129 : decode cL_areAlike 129 = .ok (.if_icmp .ge 52, 3) := by decide +kernel
theorem dL_areAlike_132 : decode cL_areAlike 132 = .ok (.iconst 0, 1) := by decide +kernel
theorem dL_areAlike_133 : decode cL_areAlike 133 = .ok (.istore 4, 2) := by decide +kernel
theorem dL_areAlike_135 : decode cL_areAlike 135 = .ok (.iload 4, 2) := by decide +kernel
theorem dL_areAlike_137 : decode cL_areAlike 137 = .ok (.bipush 6, 2) := by decide +kernel
theorem dL_areAlike_139 : decode cL_areAlike 139 = .ok (.if_icmp .ge 36, 3) := by decide +kernel
theorem dL_areAlike_142 : decode cL_areAlike 142 = .ok (.iload_n 2, 1) := by decide +kernel
theorem dL_areAlike_143 : decode cL_areAlike 143 = .ok (.ifCond .eq 24, 3) := by decide +kernel
theorem dL_areAlike_146 : decode cL_areAlike 146 = .ok (.aload_n 0, 1) := by decide +kernel
theorem dL_areAlike_147 : decode cL_areAlike 147 = .ok (.iload_n 3, 1) := by decide +kernel
theorem dL_areAlike_148 : decode cL_areAlike 148 = .ok (.iload 4, 2) := by decide +kernel
theorem dL_areAlike_150 : decode cL_areAlike 150 = .ok (.invokevirtual 41, 3) := by decide +kernel
theorem dL_areAlike_153 : decode cL_areAlike 153 = .ok (.aload_n 1, 1) := by decide +kernel
theorem dL_areAlike_154 : decode cL_areAlike 154 = .ok (.iload_n 3, 1) := by decide +kernel
theorem dL_areAlike_155 : decode cL_areAlike 155 = .ok (.iload 4, 2) := by decide +kernel
theorem dL_areAlike_157 : decode cL_areAlike 157 = .ok (.invokevirtual 41, 3) := by decide +kernel
theorem dL_areAlike_160 : decode cL_areAlike 160 = .ok (.if_icmp .ne 7, 3) := by decide +kernel
theorem dL_areAlike_163 : decode cL_areAlike 163 = .ok (.iconst 1, 1) := by decide +kernel
theorem dL_areAlike_164 : decode cL_areAlike 164 = .ok (.goto 4, 3) := by decide +kernel
theorem dL_areAlike_167 : decode cL_areAlike 167 = .ok (.iconst 0, 1) := by decide +kernel
theorem dL_areAlike_168 : decode cL_areAlike 168 = .ok (.istore_n 2, 1) := by decide +kernel
theorem dL_areAlike_169 : decode cL_areAlike 169 = .ok (.iinc 4 1, 3) := by decide +kernel
theorem dL_areAlike_172 : decode cL_areAlike 172 = .ok (.goto (-37), 3) := by decide +kernel
theorem dL_areAlike_175 : decode cL_areAlike 175 = .ok (.iinc 3 1, 3) := by decide +kernel
theorem dL_areAlike_178 : decode cL_areAlike 178 = .ok (.goto (-55), 3) := by decide +kernel
theorem dL_areAlike_181 : decode cL_areAlike 181 = .ok (.iconst 0, 1) := by decide +kernel
theorem dL_areAlike_182 : decode cL_areAlike 182 = .ok (.istore_n 3, 1) := by decide +kernel
theorem dL_areAlike_183 : decode cL_areAlike 183 = .ok (.iload_n 3, 1) := by decide +kernel
theorem dL_areAlike_184 : decode cL_areAlike 184 = .ok (.aload_n 0, 1) := by decide +kernel
theorem dL_areAlike_185 : decode cL_areAlike 185 = .ok (.iconst 3, 1) := by decide +kernel
theorem dL_areAlike_186 : decode cL_areAlike 186 = .ok (.invokevirtual 9, 3) := by decide +kernel
theorem dL_areAlike_189 : decode cL_areAlike 189 = .ok (.if_icmp .ge 51, 3) := by decide +kernel
theorem dL_areAlike_192 : decode cL_areAlike 192 = .ok (.iconst 0, 1) := by decide +kernel
theorem dL_areAlike_193 : decode cL_areAlike 193 = .ok (.istore 4, 2) := by decide +kernel
theorem dL_areAlike_195 : decode cL_areAlike 195 = .ok (.iload 4, 2) := by decide +kernel
theorem dL_areAlike_197 : decode cL_areAlike 197 = .ok (.iconst 5, 1) := by decide +kernel
theorem dL_areAlike_198 : decode cL_areAlike 198 = .ok (.if_icmp .ge 36, 3) := by decide +kernel
theorem dL_areAlike_201 : decode cL_areAlike 201 = .ok (.iload_n 2, 1) := by decide +kernel
theorem dL_areAlike_202 : decode cL_areAlike 202 = .ok (.ifCond .eq 24, 3) := by decide +kernel
theorem dL_areAlike_205 : decode cL_areAlike 205 = .ok (.aload_n 0, 1) := by decide +kernel
theorem dL_areAlike_206 : decode cL_areAlike 206 = .ok (.iload_n 3, 1) := by decide +kernel
theorem dL_areAlike_207 : decode cL_areAlike 207 = .ok (.iload 4, 2) := by decide +kernel
theorem dL_areAlike_209 : decode cL_areAlike 209 = .ok (.invokevirtual 105, 3) := by decide +kernel
theorem dL_areAlike_212 : decode cL_areAlike 212 = .ok (.aload_n 1, 1) := by decide +kernel
theorem dL_areAlike_213 : decode cL_areAlike 213 = .ok (.iload_n 3, 1) := by decide +kernel
theorem dL_areAlike_214 : decode cL_areAlike 214 = .ok (.iload 4, 2) := by decide +kernel
theorem dL_areAlike_216 : decode cL_areAlike 216 = .ok (.invokevirtual 105, 3) := by decide +kernel
theorem dL_areAlike_219 : decode cL_areAlike 219 = .ok (.if_icmp .ne 7, 3) := by decide +kernel
theorem dL_areAlike_222 : decode cL_areAlike 222 = .ok (.iconst 1, 1) := by decide +kernel
theorem dL_areAlike_223 : decode cL_areAlike 223 = .ok (.goto 4, 3) := by decide +kernel
theorem dL_areAlike_226 : decode cL_areAlike 226 = .ok (.iconst 0, 1) := by decide +kernel
theorem dL_areAlike_227 : decode cL_areAlike 227 = .ok (.istore_n 2, 1) := by decide +kernel
theorem dL_areAlike_228 : decode cL_areAlike 228 = .ok (.iinc 4 1, 3) := by decide +kernel
theorem dL_areAlike_231 : decode cL_areAlike 231 = .ok (.goto (-36), 3) := by decide +kernel
theorem dL_areAlike_234 : decode cL_areAlike 234 = .ok (.iinc 3 1, 3) := by decide +kernel
theorem dL_areAlike_237 : decode cL_areAlike 237 = .ok (.goto (-54), 3) := by decide +kernel
theorem dL_areAlike_240 : decode cL_areAlike 240 = .ok (.iload_n 2, 1) := by decide +kernel
theorem dL_areAlike_241 : decode cL_areAlike 241 = .ok (.ireturn, 1) := by decide +kernel
