set_option maxRecDepth 20000 in
theorem wsL_law_in0 : ∀ w ∈ wsL_law0, w ∈ lw_tbl := fun w h => (goodIn_p wsL_law0 [70, 73, 78, 84, 115, 150, 197, 939, 556, 559, 391, 630, 350, 354, 358, 362, 369, 374, 650, 999, 1002, 995, 1006, 987, 657, 660, 664, 543, 1010, 672, 675, 388, 697, 1014, 1018, 1022, 1025, 705, 709, 395, 1029, 717, 385, 720, 1033, 1037, 1041, 1044, 1048, 727, 403, 1052, 1056, 735, 399, 407, 1060, 1064, 1068, 742, 411, 415, 1072, 1076, 1080, 1084, 749, 419, 423, 1088, 1092, 1096, 756, 427, 431, 1100, 1104, 1108, 763, 509, 513, 1112, 1116, 1120, 1124, 1128, 770, 517, 1132, 777, 525, 1136, 784, 788, 791, 489, 1140, 1144, 799, 803, 501, 505, 1148, 1152, 1156, 1160, 810, 485, 493, 497, 1164, 1168, 818, 481, 1172, 1176, 1180, 826, 829, 529, 532, 477, 471, 474, 536, 540, 547, 1184, 1187, 1191, 1195, 836, 444, 448, 453, 456, 463, 467, 1199, 1203, 1207, 1210, 843, 521, 1214, 1218, 850, 854, 858, 862, 1222, 869, 873, 1226, 881, 885, 889, 1230, 896, 900, 904, 1234, 911, 916, 1238, 923, 927, 1242, 241, 1246, 245, 249, 253, 257, 260, 270, 274, 278, 282, 288, 292, 295, 298, 303, 306, 309, 312, 316, 326, 330, 334, 338, 342, 346, 381, 1250, 1254, 1258, 1262, 1266, 1270, 1274, 1278, 934, 991, 435, 439, 1282, 1286] (by decide +kernel) (by decide +kernel) w h).1
theorem wsL_law_x0 : ∀ w ∈ (vx_atS RX5 248 "java/lang/IllegalArgumentException" ["java/lang/RuntimeException", "java/lang/Exception"]).filter goodWord, w ∈ lw_tbl := by decide +kernel
theorem wsL_law_x1 : ∀ w ∈ (vx_atS RX5 253 "java/lang/IllegalStateException" ["java/lang/RuntimeException", "java/lang/Exception"]).filter goodWord, w ∈ lw_tbl := by decide +kernel
theorem wsL_law_x2 : ∀ w ∈ (vx_atS RX5 237 "java/lang/IndexOutOfBoundsException" ["java/lang/RuntimeException", "java/lang/Exception"]).filter goodWord, w ∈ lw_tbl := by decide +kernel
theorem wsL_law_in : ∀ w ∈ wsL_law, w ∈ lw_tbl := fun w h => (List.mem_append.mp h).elim (fun h => (List.mem_append.mp h).elim (fun h => (List.mem_append.mp h).elim (fun h => wsL_law_in0 w h) (fun h => wsL_law_x0 w h)) (fun h => wsL_law_x1 w h)) (fun h => wsL_law_x2 w h)
theorem inlX0 : ∀ w ∈ wsX00, w ∈ wsL_law := fun _ h => List.mem_append_left _ (List.mem_append_left _ (List.mem_append_left _ (List.mem_append_left _ (List.mem_append_left _ (List.mem_append_left _ (List.mem_append_left _ (List.mem_append_left _ (List.mem_append_right _ h))))))))
theorem inX0 : ∀ w ∈ wsX00, w ∈ lw_tbl := fun w h => wsL_law_in w (inlX0 w h)
theorem inlX1 : ∀ w ∈ wsX10, w ∈ wsL_law := fun _ h => List.mem_append_left _ (List.mem_append_left _ (List.mem_append_left _ (List.mem_append_left _ (List.mem_append_left _ (List.mem_append_left _ (List.mem_append_left _ (List.mem_append_right _ h)))))))
theorem inX1 : ∀ w ∈ wsX10, w ∈ lw_tbl := fun w h => wsL_law_in w (inlX1 w h)
theorem inlX2 : ∀ w ∈ wsX20, w ∈ wsL_law := fun _ h => List.mem_append_left _ (List.mem_append_left _ (List.mem_append_left _ (List.mem_append_left _ (List.mem_append_right _ h))))
theorem inX2 : ∀ w ∈ wsX20, w ∈ lw_tbl := fun w h => wsL_law_in w (inlX2 w h)
theorem inlX3 : ∀ w ∈ wsX30, w ∈ wsL_law := fun _ h => List.mem_append_left _ (List.mem_append_left _ (List.mem_append_left _ (List.mem_append_left _ (List.mem_append_left _ (List.mem_append_right _ h)))))
theorem inX3 : ∀ w ∈ wsX30, w ∈ lw_tbl := fun w h => wsL_law_in w (inlX3 w h)
theorem inlX4 : ∀ w ∈ wsX40, w ∈ wsL_law := fun _ h => List.mem_append_left _ (List.mem_append_left _ (List.mem_append_left _ (List.mem_append_left _ (List.mem_append_left _ (List.mem_append_left _ (List.mem_append_right _ h))))))
theorem inX4 : ∀ w ∈ wsX40, w ∈ lw_tbl := fun w h => wsL_law_in w (inlX4 w h)
theorem inlX5 : ∀ w ∈ wsX50, w ∈ wsL_law := fun _ h => List.mem_append_left _ (List.mem_append_left _ (List.mem_append_left _ (List.mem_append_left _ (List.mem_append_left _ (List.mem_append_left _ (List.mem_append_left _ (List.mem_append_left _ (List.mem_append_left _ (List.mem_append_left _ (List.mem_append_right _ h))))))))))
theorem inX5 : ∀ w ∈ wsX50, w ∈ lw_tbl := fun w h => wsL_law_in w (inlX5 w h)
theorem inlX6 : ∀ w ∈ wsX60, w ∈ wsL_law := fun _ h => List.mem_append_left _ (List.mem_append_left _ (List.mem_append_left _ (List.mem_append_left _ (List.mem_append_left _ (List.mem_append_left _ (List.mem_append_left _ (List.mem_append_left _ (List.mem_append_left _ (List.mem_append_right _ h)))))))))
theorem inX6 : ∀ w ∈ wsX60, w ∈ lw_tbl := fun w h => wsL_law_in w (inlX6 w h)
theorem inJ6 : ∀ w ∈ wsJ60, w ∈ lw_tbl := by decide +kernel
theorem inJ9 : ∀ w ∈ wsJ90, w ∈ lw_tbl := by decide +kernel
theorem inJ0 : ∀ w ∈ wsJ00, w ∈ lw_tbl := by decide +kernel
theorem inJ1 : ∀ w ∈ wsJ10, w ∈ lw_tbl := by decide +kernel
theorem inJ2 : ∀ w ∈ wsJ20, w ∈ lw_tbl := by decide +kernel
theorem inJ10 : ∀ w ∈ wsJ100, w ∈ lw_tbl := by decide +kernel
theorem inJ3 : ∀ w ∈ wsJ30, w ∈ lw_tbl := by decide +kernel
set_option maxRecDepth 20000 in
theorem ggX0_init_X4_init : GoodIn wsX0_init wsX4_init := goodIn_r _ [18, 19, 2, 3, 20, 21, 22, 23, 24, 25, 45, 46, 47, 48, 49] (by decide +kernel) (by decide +kernel)
set_option maxRecDepth 20000 in
theorem gX0_init_X4_init_n11 : GoodIn wsX0_init (wsX4_init) := ggX0_init_X4_init
set_option maxRecDepth 20000 in
theorem ggX0_init_X3_init : GoodIn wsX0_init wsX3_init := goodIn_r _ [27, 28, 2, 3, 29, 21, 30, 31, 32, 33, 34, 35, 54, 55, 56, 57, 58, 59, 60] (by decide +kernel) (by decide +kernel)
set_option maxRecDepth 20000 in
theorem gX0_init_X3_init_n24 : GoodIn wsX0_init (wsX3_init) := ggX0_init_X3_init
set_option maxRecDepth 20000 in
theorem ggX0_init_X2_init : GoodIn wsX0_init wsX2_init := goodIn_r _ [37, 38, 2, 3, 39, 21, 40, 41, 42, 43, 44, 61, 62, 63, 64, 65, 66] (by decide +kernel) (by decide +kernel)
set_option maxRecDepth 20000 in
theorem gX0_init_X2_init_n31 : GoodIn wsX0_init (wsX2_init) := ggX0_init_X2_init
theorem dX0_init_0 : decode cX0_init 0 = .ok (.aload_n 0, 1) := by decide +kernel
theorem dX0_init_1 : decode cX0_init 1 = .ok (.invokespecial 3, 3) := by decide +kernel
theorem dX0_init_4 : decode cX0_init 4 = .ok (.aload_n 0, 1) := by decide +kernel
theorem dX0_init_5 : decode cX0_init 5 = .ok (.new 9, 3) := by decide +kernel
theorem dX0_init_8 : decode cX0_init 8 = .ok (.dup, 1) := by decide +kernel
theorem dX0_init_9 : decode cX0_init 9 = .ok (.invokespecial 11, 3) := by decide +kernel
theorem dX0_init_12 : decode cX0_init 12 = .ok (.putfield 12, 3) := by decide +kernel
theorem dX0_init_15 : decode cX0_init 15 = .ok (.aload_n 0, 1) := by decide +kernel
theorem dX0_init_16 : decode cX0_init 16 = .ok (.iconst 0, 1) := by decide +kernel
theorem dX0_init_17 : decode cX0_init 17 = .ok (.putfield 18, 3) := by decide +kernel
theorem dX0_init_20 : decode cX0_init 20 = .ok (.aload_n 0, 1) := by decide +kernel
theorem dX0_init_21 : decode cX0_init 21 = .ok (.new 22, 3) := by decide +kernel
theorem dX0_init_24 : decode cX0_init 24 = .ok (.dup, 1) := by decide +kernel
theorem dX0_init_25 : decode cX0_init 25 = .ok (.invokespecial 24, 3) := by decide +kernel
theorem dX0_init_28 : decode cX0_init 28 = .ok (.putfield 25, 3) := by decide +kernel
theorem dX0_init_31 : decode cX0_init 31 = .ok (.aload_n 0, 1) := by decide +kernel
theorem dX0_init_32 : decode cX0_init 32 = .ok (.new 29, 3) := by decide +kernel
theorem dX0_init_35 : decode cX0_init 35 = .ok (.dup, 1) := by decide +kernel
theorem dX0_init_36 : decode cX0_init 36 = .ok (.invokespecial 31, 3) := by decide +kernel
theorem dX0_init_39 : decode cX0_init 39 = .ok (.putfield 32, 3) := by decide +kernel
theorem dX0_init_42 : decode cX0_init 42 = .ok (.return_, 1) := by decide +kernel
set_option maxRecDepth 20000 in
theorem ggX0_copy_X4_copy : GoodIn wsX0_copy wsX4_copy := goodIn_r _ [9, 10, 11, 12, 13, 14, 15, 16, 17, 18, 48, 49, 50, 51, 52] (by decide +kernel) (by decide +kernel)
set_option maxRecDepth 20000 in
theorem gX0_copy_X4_copy : GoodIn wsX0_copy (wsV RX0 36 RX4 yX4_copy wsX4_copy) := goodIn_app (goodIn_of _ (by decide +kernel)) ggX0_copy_X4_copy
set_option maxRecDepth 20000 in
theorem ggX0_copy_X3_copy : GoodIn wsX0_copy wsX3_copy := goodIn_r _ [23, 24, 25, 26, 13, 14, 15, 27, 28, 29, 30, 31, 53, 54, 55, 56, 57, 58, 59] (by decide +kernel) (by decide +kernel)
set_option maxRecDepth 20000 in
theorem gX0_copy_X3_copy : GoodIn wsX0_copy (wsV RX0 40 RX3 yX3_copy wsX3_copy) := goodIn_app (goodIn_of _ (by decide +kernel)) ggX0_copy_X3_copy
set_option maxRecDepth 20000 in
theorem ggX0_copy_X2_copy : GoodIn wsX0_copy wsX2_copy := goodIn_r _ [36, 37, 38, 39, 13, 14, 15, 40, 41, 42, 43, 60, 61, 62, 63, 64, 65] (by decide +kernel) (by decide +kernel)
set_option maxRecDepth 20000 in
theorem gX0_copy_X2_copy : GoodIn wsX0_copy (wsV RX0 43 RX2 yX2_copy wsX2_copy) := goodIn_app (goodIn_of _ (by decide +kernel)) ggX0_copy_X2_copy
theorem dX0_copy_0 : decode cX0_copy 0 = .ok (.aload_n 0, 1) := by decide +kernel
theorem dX0_copy_1 : decode cX0_copy 1 = .ok (.getfield 12, 3) := by decide +kernel
theorem dX0_copy_4 : decode cX0_copy 4 = .ok (.aload_n 1, 1) := by decide +kernel
theorem dX0_copy_5 : decode cX0_copy 5 = .ok (.getfield 12, 3) := by decide +kernel
theorem dX0_copy_8 : decode cX0_copy 8 = .ok (.invokevirtual 36, 3) := by decide +kernel
theorem dX0_copy_11 : decode cX0_copy 11 = .ok (.aload_n 0, 1) := by decide +kernel
theorem dX0_copy_12 : decode cX0_copy 12 = .ok (.aload_n 1, 1) := by decide +kernel
theorem dX0_copy_13 : decode cX0_copy 13 = .ok (.getfield 18, 3) := by decide +kernel
theorem dX0_copy_16 : decode cX0_copy 16 = .ok (.putfield 18, 3) := by decide +kernel
theorem dX0_copy_19 : decode cX0_copy 19 = .ok (.aload_n 0, 1) := by decide +kernel
theorem dX0_copy_20 : decode cX0_copy 20 = .ok (.getfield 25, 3) := by decide +kernel
theorem dX0_copy_23 : decode cX0_copy 23 = .ok (.aload_n 1, 1) := by decide +kernel
theorem dX0_copy_24 : decode cX0_copy 24 = .ok (.getfield 25, 3) := by decide +kernel
theorem dX0_copy_27 : decode cX0_copy 27 = .ok (.invokevirtual 40, 3) := by decide +kernel
theorem dX0_copy_30 : decode cX0_copy 30 = .ok (.aload_n 0, 1) := by decide +kernel
theorem dX0_copy_31 : decode cX0_copy 31 = .ok (.getfield 32, 3) := by decide +kernel
theorem dX0_copy_34 : decode cX0_copy 34 = .ok (.aload_n 1, 1) := by decide +kernel
theorem dX0_copy_35 : decode cX0_copy 35 = .ok (.getfield 32, 3) := by decide +kernel
theorem dX0_copy_38 : decode cX0_copy 38 = .ok (.invokevirtual 43, 3) := by decide +kernel
theorem dX0_copy_41 : decode cX0_copy 41 = .ok (.return_, 1) := by decide +kernel
set_option maxRecDepth 20000 in
theorem ggX0_appendFeature_X5_contains : GoodIn wsX0_appendFeature wsX5_contains := goodIn_r _ [7] (by decide +kernel) (by decide +kernel)
set_option maxRecDepth 20000 in
theorem gX0_appendFeature_X5_contains_n49 : GoodIn wsX0_appendFeature (wsX5_contains) := ggX0_appendFeature_X5_contains
theorem dX0_appendFeature_0 : decode cX0_appendFeature 0 = .ok (.aload_n 0, 1) := by decide +kernel
theorem dX0_appendFeature_1 : decode cX0_appendFeature 1 = .ok (.getfield 18, 3) := by decide +kernel
theorem dX0_appendFeature_4 : decode cX0_appendFeature 4 = .ok (.istore_n 2, 1) := by decide +kernel
theorem dX0_appendFeature_5 : decode cX0_appendFeature 5 = .ok (.iconst 0, 1) := by decide +kernel
theorem dX0_appendFeature_6 : decode cX0_appendFeature 6 = .ok (.istore_n 3, 1) := by decide +kernel
theorem dX0_appendFeature_7 : decode cX0_appendFeature 7 = .ok (.iload_n 3, 1) := by decide +kernel
theorem dX0_appendFeature_8 : decode cX0_appendFeature 8 = .ok (.aload_n 0, 1) := by decide +kernel
theorem dX0_appendFeature_9 : decode cX0_appendFeature 9 = .ok (.getfield 12, 3) := by decide +kernel
theorem dX0_appendFeature_12 : decode cX0_appendFeature 12 = .ok (.getfield 46, 3) := by decide +kernel
theorem dX0_appendFeature_15 : decode cX0_appendFeature 15 = .ok (.if_icmp .ge 32, 3) := by decide +kernel
theorem dX0_appendFeature_18 : decode cX0_appendFeature 18 = .ok (.iload_n 1, 1) := by decide +kernel
theorem dX0_appendFeature_19 : decode cX0_appendFeature 19 = .ok (.iload_n 3, 1) := by decide +kernel
theorem dX0_appendFeature_20 : decode cX0_appendFeature 20 = .ok (.invokestatic 49, 3) := by decide +kernel
theorem dX0_appendFeature_23 : decode cX0_appendFeature 23 = .ok (.ifCond .eq 18, 3) := by decide +kernel
theorem dX0_appendFeature_26 : decode cX0_appendFeature 26 = .ok (.aload_n 0, 1) := by decide +kernel
theorem dX0_appendFeature_27 : decode cX0_appendFeature 27 = .ok (.getfield 12, 3) := by decide +kernel
theorem dX0_appendFeature_30 : decode cX0_appendFeature 30 = .ok (.getfield 53, 3) := by decide +kernel
theorem dX0_appendFeature_33 : decode cX0_appendFeature 33 = .ok (.iload_n 3, 1) := by decide +kernel
theorem dX0_appendFeature_34 : decode cX0_appendFeature 34 = .ok (.dup2, 1) := by decide +kernel
theorem dX0_appendFeature_35 : decode cX0_appendFeature 35 = .ok (.iaload, 1) := by decide +kernel
theorem dX0_appendFeature_36 : decode cX0_appendFeature 36 = .ok (.iconst 1, 1) := by decide +kernel
theorem dX0_appendFeature_37 : decode cX0_appendFeature 37 = .ok (.iload_n 2, 1) := by decide +kernel
theorem dX0_appendFeature_38 : decode cX0_appendFeature 38 = .ok (.ishl, 1) := by decide +kernel
theorem dX0_appendFeature_39 : decode cX0_appendFeature 39 = .ok (.ior, 1) := by decide +kernel
theorem dX0_appendFeature_40 : decode cX0_appendFeature 40 = .ok (.iastore, 1) := by decide +kernel
theorem dX0_appendFeature_41 : decode cX0_appendFeature 41 = .ok (.iinc 3 1, 3) := by decide +kernel
theorem dX0_appendFeature_44 : decode cX0_appendFeature 44 = .ok (.goto (-37), 3) := by decide +kernel
theorem dX0_appendFeature_47 : decode cX0_appendFeature 47 = .ok (.aload_n 0, 1) := by decide +kernel
theorem dX0_appendFeature_48 : decode cX0_appendFeature 48 = .ok (.dup, 1) := by decide +kernel
theorem dX0_appendFeature_49 : decode cX0_appendFeature 49 = .ok (.getfield 18, 3) := by decide +kernel
theorem dX0_appendFeature_52 : decode cX0_appendFeature 52 = .ok (.iconst 1, 1) := by decide +kernel
theorem dX0_appendFeature_53 : decode cX0_appendFeature 53 = .ok (.iadd, 1) := by decide +kernel
theorem dX0_appendFeature_54 : decode cX0_appendFeature 54 = .ok (.putfield 18, 3) := by decide +kernel
theorem dX0_appendFeature_57 : decode cX0_appendFeature 57 = .ok (.iload_n 2, 1) := by decide +kernel
theorem dX0_appendFeature_58 : decode cX0_appendFeature 58 = .ok (.ireturn, 1) := by decide +kernel
set_option maxRecDepth 20000 in
theorem ggX0_pledgeFault_X5_isThere : GoodIn wsX0_pledgeFault wsX5_isThere := goodIn_r _ [7] (by decide +kernel) (by decide +kernel)
set_option maxRecDepth 20000 in
theorem gX0_pledgeFault_X5_isThere_n58 : GoodIn wsX0_pledgeFault (wsX5_isThere) := ggX0_pledgeFault_X5_isThere
set_option maxRecDepth 20000 in
theorem ggX0_pledgeFault_X5_isWithin : GoodIn wsX0_pledgeFault wsX5_isWithin := goodIn_r _ [9] (by decide +kernel) (by decide +kernel)
set_option maxRecDepth 20000 in
theorem gX0_pledgeFault_X5_isWithin_n61 : GoodIn wsX0_pledgeFault (wsX5_isWithin) := ggX0_pledgeFault_X5_isWithin
theorem dX0_pledgeFault_0 : decode cX0_pledgeFault 0 = .ok (.iload_n 1, 1) := by decide +kernel
theorem dX0_pledgeFault_1 : decode cX0_pledgeFault 1 = .ok (.aload_n 0, 1) := by decide +kernel
theorem dX0_pledgeFault_2 : decode cX0_pledgeFault 2 = .ok (.getfield 25, 3) := by decide +kernel
theorem dX0_pledgeFault_5 : decode cX0_pledgeFault 5 = .ok (.getfield 57, 3) := by decide +kernel
theorem dX0_pledgeFault_8 : decode cX0_pledgeFault 8 = .ok (.invokestatic 58, 3) := by decide +kernel
theorem dX0_pledgeFault_11 : decode cX0_pledgeFault 11 = .ok (.ifCond .eq 17, 3) := by decide +kernel
theorem dX0_pledgeFault_14 : decode cX0_pledgeFault 14 = .ok (.iload_n 2, 1) := by decide +kernel
theorem dX0_pledgeFault_15 : decode cX0_pledgeFault 15 = .ok (.aload_n 0, 1) := by decide +kernel
theorem dX0_pledgeFault_16 : decode cX0_pledgeFault 16 = .ok (.getfield 12, 3) := by decide +kernel
theorem dX0_pledgeFault_19 : decode cX0_pledgeFault 19 = .ok (.getfield 46, 3) := by decide +kernel
theorem dX0_pledgeFault_22 : decode cX0_pledgeFault 22 = .ok (.invokestatic 58, 3) := by decide +kernel
theorem dX0_pledgeFault_25 : decode cX0_pledgeFault 25 = .ok (.ifCond .ne 5, 3) := by decide +kernel
theorem dX0_pledgeFault_28 : decode cX0_pledgeFault 28 = .ok (.iconst 1, 1) := by decide +kernel
theorem dX0_pledgeFault_29 : decode cX0_pledgeFault 29 = .ok (.ireturn, 1) := by decide +kernel
theorem dX0_pledgeFault_30 : decode cX0_pledgeFault 30 = .ok (.iload_n 3, 1) := by decide +kernel
theorem dX0_pledgeFault_31 : decode cX0_pledgeFault 31 = .ok (.iconst 0, 1) := by decide +kernel
theorem dX0_pledgeFault_32 : decode cX0_pledgeFault 32 = .ok (.sipush 999, 3) := by decide +kernel
theorem dX0_pledgeFault_35 : decode cX0_pledgeFault 35 = .ok (.invokestatic 61, 3) := by decide +kernel
theorem dX0_pledgeFault_38 : decode cX0_pledgeFault 38 = .ok (.ifCond .eq 7, 3) := by decide +kernel
theorem dX0_pledgeFault_41 : decode cX0_pledgeFault 41 = .ok (.iconst 0, 1) := by decide +kernel
theorem dX0_pledgeFault_42 : decode cX0_pledgeFault 42 = .ok (.goto 4, 3) := by decide +kernel
theorem dX0_pledgeFault_45 : decode cX0_pledgeFault 45 = .ok (.iconst 2, 1) := by decide +kernel
theorem dX0_pledgeFault_46 : decode cX0_pledgeFault 46 = .ok (.ireturn, 1) := by decide +kernel
set_option maxRecDepth 20000 in
theorem ggX0_slipFault_X5_isThere : GoodIn wsX0_slipFault wsX5_isThere := goodIn_r _ [6] (by decide +kernel) (by decide +kernel)
set_option maxRecDepth 20000 in
theorem gX0_slipFault_X5_isThere_n58 : GoodIn wsX0_slipFault (wsX5_isThere) := ggX0_slipFault_X5_isThere
set_option maxRecDepth 20000 in
theorem ggX0_slipFault_X5_isWithin : GoodIn wsX0_slipFault wsX5_isWithin := goodIn_r _ [8] (by decide +kernel) (by decide +kernel)
set_option maxRecDepth 20000 in
theorem gX0_slipFault_X5_isWithin_n61 : GoodIn wsX0_slipFault (wsX5_isWithin) := ggX0_slipFault_X5_isWithin
set_option maxRecDepth 20000 in
theorem ggX0_slipFault_X3_isPledged : GoodIn wsX0_slipFault wsX3_isPledged := goodIn_r _ [13, 14, 19, 20, 21, 22, 23, 24, 25] (by decide +kernel) (by decide +kernel)
set_option maxRecDepth 20000 in
theorem gX0_slipFault_X3_isPledged : GoodIn wsX0_slipFault (wsV RX0 65 RX3 yX3_isPledged wsX3_isPledged) := goodIn_app (goodIn_of _ (by decide +kernel)) ggX0_slipFault_X3_isPledged
theorem dX0_slipFault_0 : decode cX0_slipFault 0 = .ok (.iload_n 1, 1) := by decide +kernel
theorem dX0_slipFault_1 : decode cX0_slipFault 1 = .ok (.aload_n 0, 1) := by decide +kernel
theorem dX0_slipFault_2 : decode cX0_slipFault 2 = .ok (.getfield 25, 3) := by decide +kernel
theorem dX0_slipFault_5 : decode cX0_slipFault 5 = .ok (.getfield 57, 3) := by decide +kernel
theorem dX0_slipFault_8 : decode cX0_slipFault 8 = .ok (.invokestatic 58, 3) := by decide +kernel
theorem dX0_slipFault_11 : decode cX0_slipFault 11 = .ok (.ifCond .ne 5, 3) := by decide +kernel
theorem dX0_slipFault_14 : decode cX0_slipFault 14 = .ok (.iconst 1, 1) := by decide +kernel
theorem dX0_slipFault_15 : decode cX0_slipFault 15 = .ok (.ireturn, 1) := by decide +kernel
theorem dX0_slipFault_16 : decode cX0_slipFault 16 = .ok (.iload_n 2, 1) := by decide +kernel
theorem dX0_slipFault_17 : decode cX0_slipFault 17 = .ok (.iconst 1, 1) := by decide +kernel
theorem dX0_slipFault_18 : decode cX0_slipFault 18 = .ok (.bipush 99, 2) := by decide +kernel
theorem dX0_slipFault_20 : decode cX0_slipFault 20 = .ok (.invokestatic 61, 3) := by decide +kernel
theorem dX0_slipFault_23 : decode cX0_slipFault 23 = .ok (.ifCond .ne 5, 3) := by decide +kernel
theorem dX0_slipFault_26 : decode cX0_slipFault 26 = .ok (.iconst 2, 1) := by decide +kernel
theorem dX0_slipFault_27 : decode cX0_slipFault 27 = .ok (.ireturn, 1) := by decide +kernel
theorem dX0_slipFault_28 : decode cX0_slipFault 28 = .ok (.aload_n 0, 1) := by decide +kernel
theorem dX0_slipFault_29 : decode cX0_slipFault 29 = .ok (.getfield 25, 3) := by decide +kernel
theorem dX0_slipFault_32 : decode cX0_slipFault 32 = .ok (.iload_n 1, 1) := by decide +kernel
theorem dX0_slipFault_33 : decode cX0_slipFault 33 = .ok (.invokevirtual 65, 3) := by decide +kernel
theorem dX0_slipFault_36 : decode cX0_slipFault 36 = .ok (.ifCond .eq 24, 3) := by decide +kernel
theorem dX0_slipFault_39 : decode cX0_slipFault 39 = .ok (.aload_n 0, 1) := by decide +kernel
theorem dX0_slipFault_40 : decode cX0_slipFault 40 = .ok (.getfield 25, 3) := by decide +kernel
theorem dX0_slipFault_43 : decode cX0_slipFault 43 = .ok (.getfield 69, 3) := by decide +kernel
theorem dX0_slipFault_46 : decode cX0_slipFault 46 = .ok (.iload_n 1, 1) := by decide +kernel
theorem dX0_slipFault_47 : decode cX0_slipFault 47 = .ok (.iaload, 1) := by decide +kernel
theorem dX0_slipFault_48 : decode cX0_slipFault 48 = .ok (.iload_n 2, 1) := by decide +kernel
theorem dX0_slipFault_49 : decode cX0_slipFault 49 = .ok (.iadd, 1) := by decide +kernel
theorem dX0_slipFault_50 : decode cX0_slipFault 50 = .ok (.sipush 999, 3) := by decide +kernel
theorem dX0_slipFault_53 : decode cX0_slipFault 53 = .ok (.if_icmp .gt 7, 3) := by decide +kernel
theorem dX0_slipFault_56 : decode cX0_slipFault 56 = .ok (.iconst 0, 1) := by decide +kernel
theorem dX0_slipFault_57 : decode cX0_slipFault 57 = .ok (.goto 4, 3) := by decide +kernel
theorem dX0_slipFault_60 : decode cX0_slipFault 60 = .ok (.iconst 3, 1) := by decide +kernel
theorem dX0_slipFault_61 : decode cX0_slipFault 61 = .ok (.ireturn, 1) := by decide +kernel
set_option maxRecDepth 20000 in
theorem ggX0_extendFault_X5_isThere : GoodIn wsX0_extendFault wsX5_isThere := goodIn_r _ [6] (by decide +kernel) (by decide +kernel)
set_option maxRecDepth 20000 in
theorem gX0_extendFault_X5_isThere_n58 : GoodIn wsX0_extendFault (wsX5_isThere) := ggX0_extendFault_X5_isThere
set_option maxRecDepth 20000 in
theorem ggX0_extendFault_X5_isWithin : GoodIn wsX0_extendFault wsX5_isWithin := goodIn_r _ [8] (by decide +kernel) (by decide +kernel)
set_option maxRecDepth 20000 in
theorem gX0_extendFault_X5_isWithin_n61 : GoodIn wsX0_extendFault (wsX5_isWithin) := ggX0_extendFault_X5_isWithin
theorem dX0_extendFault_0 : decode cX0_extendFault 0 = .ok (.iload_n 1, 1) := by decide +kernel
theorem dX0_extendFault_1 : decode cX0_extendFault 1 = .ok (.aload_n 0, 1) := by decide +kernel
theorem dX0_extendFault_2 : decode cX0_extendFault 2 = .ok (.getfield 12, 3) := by decide +kernel
theorem dX0_extendFault_5 : decode cX0_extendFault 5 = .ok (.getfield 46, 3) := by decide +kernel
theorem dX0_extendFault_8 : decode cX0_extendFault 8 = .ok (.invokestatic 58, 3) := by decide +kernel
theorem dX0_extendFault_11 : decode cX0_extendFault 11 = .ok (.ifCond .ne 5, 3) := by decide +kernel
theorem dX0_extendFault_14 : decode cX0_extendFault 14 = .ok (.iconst 1, 1) := by decide +kernel
theorem dX0_extendFault_15 : decode cX0_extendFault 15 = .ok (.ireturn, 1) := by decide +kernel
theorem dX0_extendFault_16 : decode cX0_extendFault 16 = .ok (.iload_n 2, 1) := by decide +kernel
theorem dX0_extendFault_17 : decode cX0_extendFault 17 = .ok (.iconst 1, 1) := by decide +kernel
theorem dX0_extendFault_18 : decode cX0_extendFault 18 = .ok (.bipush 99, 2) := by decide +kernel
theorem dX0_extendFault_20 : decode cX0_extendFault 20 = .ok (.invokestatic 61, 3) := by decide +kernel
theorem dX0_extendFault_23 : decode cX0_extendFault 23 = .ok (.ifCond .ne 5, 3) := by decide +kernel
theorem dX0_extendFault_26 : decode cX0_extendFault 26 = .ok (.iconst 2, 1) := by decide +kernel
theorem dX0_extendFault_27 : decode cX0_extendFault 27 = .ok (.ireturn, 1) := by decide +kernel
theorem dX0_extendFault_28 : decode cX0_extendFault 28 = .ok (.aload_n 0, 1) := by decide +kernel
theorem dX0_extendFault_29 : decode cX0_extendFault 29 = .ok (.getfield 12, 3) := by decide +kernel
theorem dX0_extendFault_32 : decode cX0_extendFault 32 = .ok (.getfield 72, 3) := by decide +kernel
theorem dX0_extendFault_35 : decode cX0_extendFault 35 = .ok (.iload_n 1, 1) := by decide +kernel
theorem dX0_extendFault_36 : decode cX0_extendFault 36 = .ok (.iaload, 1) := by decide +kernel
theorem dX0_extendFault_37 : decode cX0_extendFault 37 = .ok (.iload_n 2, 1) := by decide +kernel
theorem dX0_extendFault_38 : decode cX0_extendFault 38 = .ok (.iadd, 1) := by decide +kernel
theorem dX0_extendFault_39 : decode cX0_extendFault 39 = .ok (.sipush 1000, 3) := by decide +kernel
theorem dX0_extendFault_42 : decode cX0_extendFault 42 = .ok (.if_icmp .gt 7, 3) := by decide +kernel
theorem dX0_extendFault_45 : decode cX0_extendFault 45 = .ok (.iconst 0, 1) := by decide +kernel
theorem dX0_extendFault_46 : decode cX0_extendFault 46 = .ok (.goto 4, 3) := by decide +kernel
theorem dX0_extendFault_49 : decode cX0_extendFault 49 = .ok (.iconst 3, 1) := by decide +kernel
theorem dX0_extendFault_50 : decode cX0_extendFault 50 = .ok (.ireturn, 1) := by decide +kernel
set_option maxRecDepth 20000 in
theorem ggX0_shimFault_X5_isThere : GoodIn wsX0_shimFault wsX5_isThere := goodIn_r _ [8] (by decide +kernel) (by decide +kernel)
set_option maxRecDepth 20000 in
theorem gX0_shimFault_X5_isThere_n58 : GoodIn wsX0_shimFault (wsX5_isThere) := ggX0_shimFault_X5_isThere
set_option maxRecDepth 20000 in
theorem ggX0_shimFault_X5_isWithin : GoodIn wsX0_shimFault wsX5_isWithin := goodIn_r _ [10] (by decide +kernel) (by decide +kernel)
set_option maxRecDepth 20000 in
theorem gX0_shimFault_X5_isWithin_n61 : GoodIn wsX0_shimFault (wsX5_isWithin) := ggX0_shimFault_X5_isWithin
theorem dX0_shimFault_0 : decode cX0_shimFault 0 = .ok (.iload_n 1, 1) := by decide +kernel
theorem dX0_shimFault_1 : decode cX0_shimFault 1 = .ok (.aload_n 0, 1) := by decide +kernel
theorem dX0_shimFault_2 : decode cX0_shimFault 2 = .ok (.getfield 18, 3) := by decide +kernel
theorem dX0_shimFault_5 : decode cX0_shimFault 5 = .ok (.invokestatic 58, 3) := by decide +kernel
theorem dX0_shimFault_8 : decode cX0_shimFault 8 = .ok (.ifCond .eq 17, 3) := by decide +kernel
theorem dX0_shimFault_11 : decode cX0_shimFault 11 = .ok (.iload_n 2, 1) := by decide +kernel
theorem dX0_shimFault_12 : decode cX0_shimFault 12 = .ok (.aload_n 0, 1) := by decide +kernel
theorem dX0_shimFault_13 : decode cX0_shimFault 13 = .ok (.getfield 12, 3) := by decide +kernel
theorem dX0_shimFault_16 : decode cX0_shimFault 16 = .ok (.getfield 46, 3) := by decide +kernel
theorem dX0_shimFault_19 : decode cX0_shimFault 19 = .ok (.invokestatic 58, 3) := by decide +kernel
theorem dX0_shimFault_22 : decode cX0_shimFault 22 = .ok (.ifCond .ne 5, 3) := by decide +kernel
theorem dX0_shimFault_25 : decode cX0_shimFault 25 = .ok (.iconst 1, 1) := by decide +kernel
theorem dX0_shimFault_26 : decode cX0_shimFault 26 = .ok (.ireturn, 1) := by decide +kernel
theorem dX0_shimFault_27 : decode cX0_shimFault 27 = .ok (.iload_n 3, 1) := by decide +kernel
theorem dX0_shimFault_28 : decode cX0_shimFault 28 = .ok (.iconst 0, 1) := by decide +kernel
theorem dX0_shimFault_29 : decode cX0_shimFault 29 = .ok (.sipush 999, 3) := by decide +kernel
theorem dX0_shimFault_32 : decode cX0_shimFault 32 = .ok (.invokestatic 61, 3) := by decide +kernel
theorem dX0_shimFault_35 : decode cX0_shimFault 35 = .ok (.ifCond .eq 26, 3) := by decide +kernel
theorem dX0_shimFault_38 : decode cX0_shimFault 38 = .ok (.iload 4, 2) := by decide +kernel
theorem dX0_shimFault_40 : decode cX0_shimFault 40 = .ok (.iload_n 3, 1) := by decide +kernel
theorem dX0_shimFault_41 : decode cX0_shimFault 41 = .ok (.sipush 999, 3) := by decide +kernel
theorem dX0_shimFault_44 : decode cX0_shimFault 44 = .ok (.invokestatic 61, 3) := by decide +kernel
theorem dX0_shimFault_47 : decode cX0_shimFault 47 = .ok (.ifCond .eq 14, 3) := by decide +kernel
theorem dX0_shimFault_50 : decode cX0_shimFault 50 = .ok (.iload 5, 2) := by decide +kernel
theorem dX0_shimFault_52 : decode cX0_shimFault 52 = .ok (.iconst 1, 1) := by decide +kernel
theorem dX0_shimFault_53 : decode cX0_shimFault 53 = .ok (.bipush 99, 2) := by decide +kernel
theorem dX0_shimFault_55 : decode cX0_shimFault 55 = .ok (.invokestatic 61, 3) := by decide +kernel
theorem dX0_shimFault_58 : decode cX0_shimFault 58 = .ok (.ifCond .ne 5, 3) := by decide +kernel
theorem dX0_shimFault_61 : decode cX0_shimFault 61 = .ok (.iconst 2, 1) := by decide +kernel
theorem dX0_shimFault_62 : decode cX0_shimFault 62 = .ok (.ireturn, 1) := by decide +kernel
theorem dX0_shimFault_63 : decode cX0_shimFault 63 = .ok (.aload_n 0, 1) := by decide +kernel
theorem dX0_shimFault_64 : decode cX0_shimFault 64 = .ok (.getfield 32, 3) := by decide +kernel
theorem dX0_shimFault_67 : decode cX0_shimFault 67 = .ok (.getfield 75, 3) := by decide +kernel
theorem dX0_shimFault_70 : decode cX0_shimFault 70 = .ok (.bipush 12, 2) := by decide +kernel
theorem dX0_shimFault_72 : decode cX0_shimFault 72 = .ok (.if_icmp .ge 7, 3) := by decide +kernel
theorem dX0_shimFault_75 : decode cX0_shimFault 75 = .ok (.iconst 0, 1) := by decide +kernel
theorem dX0_shimFault_76 : decode cX0_shimFault 76 = .ok (.goto 4, 3) := by decide +kernel
theorem dX0_shimFault_79 : decode cX0_shimFault 79 = .ok (.iconst 3, 1) := by decide +kernel
theorem dX0_shimFault_80 : decode cX0_shimFault 80 = .ok (.ireturn, 1) := by decide +kernel
set_option maxRecDepth 20000 in
theorem ggX0_dropFault_X5_isThere : GoodIn wsX0_dropFault wsX5_isThere := goodIn_r _ [5] (by decide +kernel) (by decide +kernel)
set_option maxRecDepth 20000 in
theorem gX0_dropFault_X5_isThere_n58 : GoodIn wsX0_dropFault (wsX5_isThere) := ggX0_dropFault_X5_isThere
theorem dX0_dropFault_0 : decode cX0_dropFault 0 = .ok (.iload_n 1, 1) := by decide +kernel
theorem dX0_dropFault_1 : decode cX0_dropFault 1 = .ok (.aload_n 0, 1) := by decide +kernel
theorem dX0_dropFault_2 : decode cX0_dropFault 2 = .ok (.getfield 32, 3) := by decide +kernel
theorem dX0_dropFault_5 : decode cX0_dropFault 5 = .ok (.getfield 75, 3) := by decide +kernel
theorem dX0_dropFault_8 : decode cX0_dropFault 8 = .ok (.invokestatic 58, 3) := by decide +kernel
theorem dX0_dropFault_11 : decode cX0_dropFault 11 = .ok (.ifCond .eq 7, 3) := by decide +kernel
theorem dX0_dropFault_14 : decode cX0_dropFault 14 = .ok (.iconst 0, 1) := by decide +kernel
theorem dX0_dropFault_15 : decode cX0_dropFault 15 = .ok (.goto 4, 3) := by decide +kernel
theorem dX0_dropFault_18 : decode cX0_dropFault 18 = .ok (.iconst 1, 1) := by decide +kernel
theorem dX0_dropFault_19 : decode cX0_dropFault 19 = .ok (.ireturn, 1) := by decide +kernel
set_option maxRecDepth 20000 in
theorem ggX0_ofVersion_X2_countFor : GoodIn wsX0_ofVersion wsX2_countFor := goodIn_r _ [11, 12, 13, 23, 24, 25, 26, 27, 28] (by decide +kernel) (by decide +kernel)
set_option maxRecDepth 20000 in
theorem gX0_ofVersion_X2_countFor : GoodIn wsX0_ofVersion (wsV RX0 82 RX2 yX2_countFor wsX2_countFor) := goodIn_app (goodIn_of _ (by decide +kernel)) ggX0_ofVersion_X2_countFor
theorem dX0_ofVersion_0 : decode cX0_ofVersion 0 = .ok (.iload_n 2, 1) := by decide +kernel
theorem dX0_ofVersion_1 : decode cX0_ofVersion 1 = .ok (.tableswitch 71 0 3 #[31, 41, 51, 61], 31) := by decide +kernel
theorem dX0_ofVersion_32 : decode cX0_ofVersion 32 = .ok (.aload_n 0, 1) := by decide +kernel
theorem dX0_ofVersion_33 : decode cX0_ofVersion 33 = .ok (.getfield 12, 3) := by decide +kernel
theorem dX0_ofVersion_36 : decode cX0_ofVersion 36 = .ok (.getfield 76, 3) := by decide +kernel
theorem dX0_ofVersion_39 : decode cX0_ofVersion 39 = .ok (.iload_n 1, 1) := by decide +kernel
theorem dX0_ofVersion_40 : decode cX0_ofVersion 40 = .ok (.iaload, 1) := by decide +kernel
theorem dX0_ofVersion_41 : decode cX0_ofVersion 41 = .ok (.ireturn, 1) := by decide +kernel
theorem dX0_ofVersion_42 : decode cX0_ofVersion 42 = .ok (.aload_n 0, 1) := by decide +kernel
theorem dX0_ofVersion_43 : decode cX0_ofVersion 43 = .ok (.getfield 12, 3) := by decide +kernel
theorem dX0_ofVersion_46 : decode cX0_ofVersion 46 = .ok (.getfield 72, 3) := by decide +kernel
theorem dX0_ofVersion_49 : decode cX0_ofVersion 49 = .ok (.iload_n 1, 1) := by decide +kernel
theorem dX0_ofVersion_50 : decode cX0_ofVersion 50 = .ok (.iaload, 1) := by decide +kernel
theorem dX0_ofVersion_51 : decode cX0_ofVersion 51 = .ok (.ireturn, 1) := by decide +kernel
theorem dX0_ofVersion_52 : decode cX0_ofVersion 52 = .ok (.aload_n 0, 1) := by decide +kernel
theorem dX0_ofVersion_53 : decode cX0_ofVersion 53 = .ok (.getfield 12, 3) := by decide +kernel
theorem dX0_ofVersion_56 : decode cX0_ofVersion 56 = .ok (.getfield 53, 3) := by decide +kernel
theorem dX0_ofVersion_59 : decode cX0_ofVersion 59 = .ok (.iload_n 1, 1) := by decide +kernel
theorem dX0_ofVersion_60 : decode cX0_ofVersion 60 = .ok (.iaload, 1) := by decide +kernel
theorem dX0_ofVersion_61 : decode cX0_ofVersion 61 = .ok (.ireturn, 1) := by decide +kernel
theorem dX0_ofVersion_62 : decode cX0_ofVersion 62 = .ok (.aload_n 0, 1) := by decide +kernel
theorem dX0_ofVersion_63 : decode cX0_ofVersion 63 = .ok (.getfield 12, 3) := by decide +kernel
theorem dX0_ofVersion_66 : decode cX0_ofVersion 66 = .ok (.getfield 79, 3) := by decide +kernel
theorem dX0_ofVersion_69 : decode cX0_ofVersion 69 = .ok (.iload_n 1, 1) := by decide +kernel
theorem dX0_ofVersion_70 : decode cX0_ofVersion 70 = .ok (.iaload, 1) := by decide +kernel
theorem dX0_ofVersion_71 : decode cX0_ofVersion 71 = .ok (.ireturn, 1) := by decide +kernel
theorem dX0_ofVersion_72 : decode cX0_ofVersion 72 = .ok (.aload_n 0, 1) := by decide +kernel
theorem dX0_ofVersion_73 : decode cX0_ofVersion 73 = .ok (.getfield 32, 3) := by decide +kernel
theorem dX0_ofVersion_76 : decode cX0_ofVersion 76 = .ok (.iload_n 1, 1) := by decide +kernel
theorem dX0_ofVersion_77 : decode cX0_ofVersion 77 = .ok (.invokevirtual 82, 3) := by decide +kernel
theorem dX0_ofVersion_80 : decode cX0_ofVersion 80 = .ok (.ireturn, 1) := by decide +kernel
set_option maxRecDepth 20000 in
theorem ggX0_number_X3_pledgeCount : GoodIn wsX0_number wsX3_pledgeCount := goodIn_r _ [12, 13, 14, 15, 16, 11, 17, 18, 107, 108, 109, 110, 111, 112, 113] (by decide +kernel) (by decide +kernel)
set_option maxRecDepth 20000 in
theorem gX0_number_X3_pledgeCount : GoodIn wsX0_number (wsV RX0 86 RX3 yX3_pledgeCount wsX3_pledgeCount) := goodIn_app (goodIn_of _ (by decide +kernel)) ggX0_number_X3_pledgeCount
set_option maxRecDepth 20000 in
theorem ggX0_number_X3_useCount : GoodIn wsX0_number wsX3_useCount := goodIn_r _ [22, 13, 23, 24, 25, 26, 27, 28, 29, 30, 107, 108, 109, 110, 111, 112, 113] (by decide +kernel) (by decide +kernel)
set_option maxRecDepth 20000 in
theorem gX0_number_X3_useCount : GoodIn wsX0_number (wsV RX0 90 RX3 yX3_useCount wsX3_useCount) := goodIn_app (goodIn_of _ (by decide +kernel)) ggX0_number_X3_useCount
set_option maxRecDepth 20000 in
theorem ggX0_number_X3_slipCount : GoodIn wsX0_number wsX3_slipCount := goodIn_r _ [34, 13, 35, 107, 108, 109, 110, 111, 112, 113] (by decide +kernel) (by decide +kernel)
set_option maxRecDepth 20000 in
theorem gX0_number_X3_slipCount : GoodIn wsX0_number (wsV RX0 93 RX3 yX3_slipCount wsX3_slipCount) := goodIn_app (goodIn_of _ (by decide +kernel)) ggX0_number_X3_slipCount
set_option maxRecDepth 20000 in
theorem ggX0_number_X0_strandedDays : GoodIn wsX0_number wsX0_strandedDays := goodIn_r _ [40, 41, 42, 43, 44, 45, 46, 47, 39, 48, 1, 2, 49, 50, 4, 5, 51, 6, 7, 52, 53, 54, 55, 56, 57, 58, 59, 60, 61, 62, 63, 64, 65, 66, 67, 68, 11, 69, 70, 18, 71, 14, 15, 16, 17, 72, 73, 74, 75, 76, 77, 78, 79, 80, 81, 82, 83, 84, 85, 86, 87, 88, 89, 90, 91, 92, 93, 94, 95, 96, 97, 98, 99, 100, 101, 102, 103, 104, 105, 106, 107, 108, 109, 110, 111, 112, 113, 114, 115, 116, 117, 118, 119] (by decide +kernel) (by decide +kernel)
set_option maxRecDepth 20000 in
theorem gX0_number_X0_strandedDays : GoodIn wsX0_number (wsV RX0 96 RX0 yX0_strandedDays wsX0_strandedDays) := goodIn_app (goodIn_of _ (by decide +kernel)) ggX0_number_X0_strandedDays
theorem dX0_number_0 : decode cX0_number 0 = .ok (.iload_n 1, 1) := by decide +kernel
theorem dX0_number_1 : decode cX0_number 1 = .ok (.tableswitch 96 0 6 #[43, 51, 56, 64, 72, 80, 88], 43) := by decide +kernel
theorem dX0_number_44 : decode cX0_number 44 = .ok (.aload_n 0, 1) := by decide +kernel
theorem dX0_number_45 : decode cX0_number 45 = .ok (.getfield 12, 3) := by decide +kernel
theorem dX0_number_48 : decode cX0_number 48 = .ok (.getfield 46, 3) := by decide +kernel
theorem dX0_number_51 : decode cX0_number 51 = .ok (.ireturn, 1) := by decide +kernel
theorem dX0_number_52 : decode cX0_number 52 = .ok (.aload_n 0, 1) := by decide +kernel
theorem dX0_number_53 : decode cX0_number 53 = .ok (.getfield 18, 3) := by decide +kernel
theorem dX0_number_56 : decode cX0_number 56 = .ok (.ireturn, 1) := by decide +kernel
theorem dX0_number_57 : decode cX0_number 57 = .ok (.aload_n 0, 1) := by decide +kernel
theorem dX0_number_58 : decode cX0_number 58 = .ok (.getfield 25, 3) := by decide +kernel
theorem dX0_number_61 : decode cX0_number 61 = .ok (.getfield 57, 3) := by decide +kernel
theorem dX0_number_64 : decode cX0_number 64 = .ok (.ireturn, 1) := by decide +kernel
theorem dX0_number_65 : decode cX0_number 65 = .ok (.aload_n 0, 1) := by decide +kernel
theorem dX0_number_66 : decode cX0_number 66 = .ok (.getfield 32, 3) := by decide +kernel
theorem dX0_number_69 : decode cX0_number 69 = .ok (.getfield 75, 3) := by decide +kernel
theorem dX0_number_72 : decode cX0_number 72 = .ok (.ireturn, 1) := by decide +kernel
theorem dX0_number_73 : decode cX0_number 73 = .ok (.aload_n 0, 1) := by decide +kernel
theorem dX0_number_74 : decode cX0_number 74 = .ok (.getfield 25, 3) := by decide +kernel
theorem dX0_number_77 : decode cX0_number 77 = .ok (.invokevirtual 86, 3) := by decide +kernel
theorem dX0_number_80 : decode cX0_number 80 = .ok (.ireturn, 1) := by decide +kernel
theorem dX0_number_81 : decode cX0_number 81 = .ok (.aload_n 0, 1) := by decide +kernel
theorem dX0_number_82 : decode cX0_number 82 = .ok (.getfield 25, 3) := by decide +kernel
theorem dX0_number_85 : decode cX0_number 85 = .ok (.invokevirtual 90, 3) := by decide +kernel
theorem dX0_number_88 : decode cX0_number 88 = .ok (.ireturn, 1) := by decide +kernel
theorem dX0_number_89 : decode cX0_number 89 = .ok (.aload_n 0, 1) := by decide +kernel
theorem dX0_number_90 : decode cX0_number 90 = .ok (.getfield 25, 3) := by decide +kernel
theorem dX0_number_93 : decode cX0_number 93 = .ok (.invokevirtual 93, 3) := by decide +kernel
theorem dX0_number_96 : decode cX0_number 96 = .ok (.ireturn, 1) := by decide +kernel
theorem dX0_number_97 : decode cX0_number 97 = .ok (.aload_n 0, 1) := by decide +kernel
theorem dX0_number_98 : decode cX0_number 98 = .ok (.invokevirtual 96, 3) := by decide +kernel
theorem dX0_number_101 : decode cX0_number 101 = .ok (.ireturn, 1) := by decide +kernel
set_option maxRecDepth 20000 in
theorem ggX0_howServed_X5_contains : GoodIn wsX0_howServed wsX5_contains := goodIn_r _ [10] (by decide +kernel) (by decide +kernel)
set_option maxRecDepth 20000 in
theorem gX0_howServed_X5_contains_n49 : GoodIn wsX0_howServed (wsX5_contains) := ggX0_howServed_X5_contains
set_option maxRecDepth 20000 in
theorem ggX0_howServed_X3_placeOn : GoodIn wsX0_howServed wsX3_placeOn := goodIn_r _ [15, 16, 17, 18, 19, 20, 21, 14, 22, 41, 42, 43, 44, 45, 46, 47] (by decide +kernel) (by decide +kernel)
set_option maxRecDepth 20000 in
theorem gX0_howServed_X3_placeOn : GoodIn wsX0_howServed (wsV RX0 102 RX3 yX3_placeOn wsX3_placeOn) := goodIn_app (goodIn_of _ (by decide +kernel)) ggX0_howServed_X3_placeOn
set_option maxRecDepth 20000 in
theorem ggX0_howServed_X2_activeFeatures : GoodIn wsX0_howServed wsX2_activeFeatures := goodIn_r _ [27, 28, 29, 30, 31, 32, 26, 33, 34, 35, 36, 53, 54, 55, 56, 57, 58] (by decide +kernel) (by decide +kernel)
set_option maxRecDepth 20000 in
theorem gX0_howServed_X2_activeFeatures : GoodIn wsX0_howServed (wsV RX0 106 RX2 yX2_activeFeatures wsX2_activeFeatures) := goodIn_app (goodIn_of _ (by decide +kernel)) ggX0_howServed_X2_activeFeatures
theorem dX0_howServed_0 : decode cX0_howServed 0 = .ok (.aload_n 0, 1) := by decide +kernel
theorem dX0_howServed_1 : decode cX0_howServed 1 = .ok (.getfield 25, 3) := by decide +kernel
theorem dX0_howServed_4 : decode cX0_howServed 4 = .ok (.getfield 99, 3) := by decide +kernel
theorem dX0_howServed_7 : decode cX0_howServed 7 = .ok (.iload_n 1, 1) := by decide +kernel
theorem dX0_howServed_8 : decode cX0_howServed 8 = .ok (.iaload, 1) := by decide +kernel
theorem dX0_howServed_9 : decode cX0_howServed 9 = .ok (.iload_n 2, 1) := by decide +kernel
theorem dX0_howServed_10 : decode cX0_howServed 10 = .ok (.invokestatic 49, 3) := by decide +kernel
theorem dX0_howServed_13 : decode cX0_howServed 13 = .ok (.ifCond .ne 5, 3) := by decide +kernel
theorem dX0_howServed_16 : decode cX0_howServed 16 = .ok (.iconst 5, 1) := by decide +kernel
theorem dX0_howServed_17 : decode cX0_howServed 17 = .ok (.ireturn, 1) := by decide +kernel
theorem dX0_howServed_18 : decode cX0_howServed 18 = .ok (.aload_n 0, 1) := by decide +kernel
theorem dX0_howServed_19 : decode cX0_howServed 19 = .ok (.getfield 25, 3) := by decide +kernel
theorem dX0_howServed_22 : decode cX0_howServed 22 = .ok (.iload_n 1, 1) := by decide +kernel
theorem dX0_howServed_23 : decode cX0_howServed 23 = .ok (.iload_n 3, 1) := by decide +kernel
theorem dX0_howServed_24 : decode cX0_howServed 24 = .ok (.invokevirtual 102, 3) := by decide +kernel
theorem dX0_howServed_27 : decode cX0_howServed 27 = .ok (.istore 4, 2) := by decide +kernel
theorem dX0_howServed_29 : decode cX0_howServed 29 = .ok (.iload_n 3, 1) := by decide +kernel
theorem dX0_howServed_30 : decode cX0_howServed 30 = .ok (.aload_n 0, 1) := by decide +kernel
theorem dX0_howServed_31 : decode cX0_howServed 31 = .ok (.getfield 12, 3) := by decide +kernel
theorem dX0_howServed_34 : decode cX0_howServed 34 = .ok (.getfield 76, 3) := by decide +kernel
theorem dX0_howServed_37 : decode cX0_howServed 37 = .ok (.iload 4, 2) := by decide +kernel
theorem dX0_howServed_39 : decode cX0_howServed 39 = .ok (.iaload, 1) := by decide +kernel
theorem dX0_howServed_40 : decode cX0_howServed 40 = .ok (.if_icmp .ge 5, 3) := by decide +kernel
theorem dX0_howServed_43 : decode cX0_howServed 43 = .ok (.iconst 2, 1) := by decide +kernel
theorem dX0_howServed_44 : decode cX0_howServed 44 = .ok (.ireturn, 1) := by decide +kernel
theorem dX0_howServed_45 : decode cX0_howServed 45 = .ok (.iload_n 3, 1) := by decide +kernel
theorem dX0_howServed_46 : decode cX0_howServed 46 = .ok (.aload_n 0, 1) := by decide +kernel
theorem dX0_howServed_47 : decode cX0_howServed 47 = .ok (.getfield 12, 3) := by decide +kernel
theorem dX0_howServed_50 : decode cX0_howServed 50 = .ok (.getfield 72, 3) := by decide +kernel
theorem dX0_howServed_53 : decode cX0_howServed 53 = .ok (.iload 4, 2) := by decide +kernel
theorem dX0_howServed_55 : decode cX0_howServed 55 = .ok (.iaload, 1) := by decide +kernel
theorem dX0_howServed_56 : decode cX0_howServed 56 = .ok (.if_icmp .lt 5, 3) := by decide +kernel
theorem dX0_howServed_59 : decode cX0_howServed 59 = .ok (.iconst 3, 1) := by decide +kernel
theorem dX0_howServed_60 : decode cX0_howServed 60 = .ok (.ireturn, 1) := by decide +kernel
theorem dX0_howServed_61 : decode cX0_howServed 61 = .ok (.aload_n 0, 1) := by decide +kernel
theorem dX0_howServed_62 : decode cX0_howServed 62 = .ok (.getfield 12, 3) := by decide +kernel
theorem dX0_howServed_65 : decode cX0_howServed 65 = .ok (.getfield 53, 3) := by decide +kernel
theorem dX0_howServed_68 : decode cX0_howServed 68 = .ok (.iload 4, 2) := by decide +kernel
theorem dX0_howServed_70 : decode cX0_howServed 70 = .ok (.iaload, 1) := by decide +kernel
theorem dX0_howServed_71 : decode cX0_howServed 71 = .ok (.iload_n 2, 1) := by decide +kernel
theorem dX0_howServed_72 : decode cX0_howServed 72 = .ok (.invokestatic 49, 3) := by decide +kernel
theorem dX0_howServed_75 : decode cX0_howServed 75 = .ok (.ifCond .eq 5, 3) := by decide +kernel
theorem dX0_howServed_78 : decode cX0_howServed 78 = .ok (.iconst 0, 1) := by decide +kernel
theorem dX0_howServed_79 : decode cX0_howServed 79 = .ok (.ireturn, 1) := by decide +kernel
theorem dX0_howServed_80 : decode cX0_howServed 80 = .ok (.aload_n 0, 1) := by decide +kernel
theorem dX0_howServed_81 : decode cX0_howServed 81 = .ok (.getfield 32, 3) := by decide +kernel
theorem dX0_howServed_84 : decode cX0_howServed 84 = .ok (.iload 4, 2) := by decide +kernel
theorem dX0_howServed_86 : decode cX0_howServed 86 = .ok (.iload_n 3, 1) := by decide +kernel
theorem dX0_howServed_87 : decode cX0_howServed 87 = .ok (.invokevirtual 106, 3) := by decide +kernel
theorem dX0_howServed_90 : decode cX0_howServed 90 = .ok (.iload_n 2, 1) := by decide +kernel
theorem dX0_howServed_91 : decode cX0_howServed 91 = .ok (.invokestatic 49, 3) := by decide +kernel
theorem dX0_howServed_94 : decode cX0_howServed 94 = .ok (.ifCond .eq 7, 3) := by decide +kernel
theorem dX0_howServed_97 : decode cX0_howServed 97 = .ok (.iconst 1, 1) := by decide +kernel
theorem dX0_howServed_98 : decode cX0_howServed 98 = .ok (.goto 4, 3) := by decide +kernel
theorem dX0_howServed_101 : decode cX0_howServed 101 = .ok (.iconst 4, 1) := by decide +kernel
theorem dX0_howServed_102 : decode cX0_howServed 102 = .ok (.ireturn, 1) := by decide +kernel
set_option maxRecDepth 20000 in
theorem ggX0_unserved_X4_isAlive : GoodIn wsX0_unserved wsX4_isAlive := goodIn_r _ [8, 9, 10, 29, 30, 31, 32, 33] (by decide +kernel) (by decide +kernel)
set_option maxRecDepth 20000 in
theorem gX0_unserved_X4_isAlive : GoodIn wsX0_unserved (wsV RX0 109 RX4 yX4_isAlive wsX4_isAlive) := goodIn_app (goodIn_of _ (by decide +kernel)) ggX0_unserved_X4_isAlive
set_option maxRecDepth 20000 in
theorem ggX0_unserved_X2_activeFeatures : GoodIn wsX0_unserved wsX2_activeFeatures := goodIn_r _ [15, 16, 17, 18, 19, 20, 14, 21, 22, 23, 24, 34, 35, 36, 37, 38, 39] (by decide +kernel) (by decide +kernel)
set_option maxRecDepth 20000 in
theorem gX0_unserved_X2_activeFeatures : GoodIn wsX0_unserved (wsV RX0 106 RX2 yX2_activeFeatures wsX2_activeFeatures) := goodIn_app (goodIn_of _ (by decide +kernel)) ggX0_unserved_X2_activeFeatures
theorem dX0_unserved_0 : decode cX0_unserved 0 = .ok (.aload_n 0, 1) := by decide +kernel
theorem dX0_unserved_1 : decode cX0_unserved 1 = .ok (.getfield 12, 3) := by decide +kernel
theorem dX0_unserved_4 : decode cX0_unserved 4 = .ok (.iload_n 2, 1) := by decide +kernel
theorem dX0_unserved_5 : decode cX0_unserved 5 = .ok (.iload_n 3, 1) := by decide +kernel
theorem dX0_unserved_6 : decode cX0_unserved 6 = .ok (.invokevirtual 109, 3) := by decide +kernel
theorem dX0_unserved_9 : decode cX0_unserved 9 = .ok (.ifCond .ne 5, 3) := by decide +kernel
theorem dX0_unserved_12 : decode cX0_unserved 12 = .ok (.iload_n 1, 1) := by decide +kernel
theorem dX0_unserved_13 : decode cX0_unserved 13 = .ok (.ireturn, 1) := by decide +kernel
theorem dX0_unserved_14 : decode cX0_unserved 14 = .ok (.iload_n 1, 1) := by decide +kernel
theorem dX0_unserved_15 : decode cX0_unserved 15 = .ok (.aload_n 0, 1) := by decide +kernel
theorem dX0_unserved_16 : decode cX0_unserved 16 = .ok (.getfield 12, 3) := by decide +kernel
theorem dX0_unserved_19 : decode cX0_unserved 19 = .ok (.getfield 53, 3) := by decide +kernel
theorem dX0_unserved_22 : decode cX0_unserved 22 = .ok (.iload_n 2, 1) := by decide +kernel
theorem dX0_unserved_23 : decode cX0_unserved 23 = .ok (.iaload, 1) := by decide +kernel
theorem dX0_unserved_24 : decode cX0_unserved 24 = .ok (.aload_n 0, 1) := by decide +kernel
theorem dX0_unserved_25 : decode cX0_unserved 25 = .ok (.getfield 32, 3) := by decide +kernel
theorem dX0_unserved_28 : decode cX0_unserved 28 = .ok (.iload_n 2, 1) := by decide +kernel
theorem dX0_unserved_29 : decode cX0_unserved 29 = .ok (.iload_n 3, 1) := by decide +kernel
theorem dX0_unserved_30 : decode cX0_unserved 30 = .ok (.invokevirtual 106, 3) := by decide +kernel
theorem dX0_unserved_33 : decode cX0_unserved 33 = .ok (.ior, 1) := by decide +kernel
theorem dX0_unserved_34 : decode cX0_unserved 34 = .ok (.iconst (-1), 1) := by decide +kernel
theorem dX0_unserved_35 : decode cX0_unserved 35 = .ok (.ixor, 1) := by decide +kernel
theorem dX0_unserved_36 : decode cX0_unserved 36 = .ok (.iand, 1) := by decide +kernel
theorem dX0_unserved_37 : decode cX0_unserved 37 = .ok (.ireturn, 1) := by decide +kernel
set_option maxRecDepth 20000 in
theorem ggX0_unservedUses_X3_placeOn : GoodIn wsX0_unservedUses wsX3_placeOn := goodIn_r _ [7, 8, 9, 10, 11, 12, 13, 6, 14, 48, 49, 50, 51, 52, 53, 54] (by decide +kernel) (by decide +kernel)
set_option maxRecDepth 20000 in
theorem gX0_unservedUses_X3_placeOn : GoodIn wsX0_unservedUses (wsV RX0 102 RX3 yX3_placeOn wsX3_placeOn) := goodIn_app (goodIn_of _ (by decide +kernel)) ggX0_unservedUses_X3_placeOn
set_option maxRecDepth 20000 in
theorem ggX0_unservedUses_X0_unserved : GoodIn wsX0_unservedUses wsX0_unserved := goodIn_r _ [19, 20, 21, 22, 23, 24, 25, 26, 27, 28, 29, 30, 31, 32, 33, 34, 35, 36, 37, 38, 39, 40, 41, 42, 43, 44, 45, 46, 47, 55, 56, 57, 58, 59, 60, 61, 62, 63, 64, 65] (by decide +kernel) (by decide +kernel)
set_option maxRecDepth 20000 in
theorem gX0_unservedUses_X0_unserved : GoodIn wsX0_unservedUses (wsV RX0 112 RX0 yX0_unserved wsX0_unserved) := goodIn_app (goodIn_of _ (by decide +kernel)) ggX0_unservedUses_X0_unserved
theorem dX0_unservedUses_0 : decode cX0_unservedUses 0 = .ok (.aload_n 0, 1) := by decide +kernel
theorem dX0_unservedUses_1 : decode cX0_unservedUses 1 = .ok (.aload_n 0, 1) := by decide +kernel
theorem dX0_unservedUses_2 : decode cX0_unservedUses 2 = .ok (.getfield 25, 3) := by decide +kernel
theorem dX0_unservedUses_5 : decode cX0_unservedUses 5 = .ok (.getfield 99, 3) := by decide +kernel
theorem dX0_unservedUses_8 : decode cX0_unservedUses 8 = .ok (.iload_n 1, 1) := by decide +kernel
theorem dX0_unservedUses_9 : decode cX0_unservedUses 9 = .ok (.iaload, 1) := by decide +kernel
theorem dX0_unservedUses_10 : decode cX0_unservedUses 10 = .ok (.aload_n 0, 1) := by decide +kernel
theorem dX0_unservedUses_11 : decode cX0_unservedUses 11 = .ok (.getfield 25, 3) := by decide +kernel
theorem dX0_unservedUses_14 : decode cX0_unservedUses 14 = .ok (.iload_n 1, 1) := by decide +kernel
theorem dX0_unservedUses_15 : decode cX0_unservedUses 15 = .ok (.iload_n 2, 1) := by decide +kernel
theorem dX0_unservedUses_16 : decode cX0_unservedUses 16 = .ok (.invokevirtual 102, 3) := by decide +kernel
theorem dX0_unservedUses_19 : decode cX0_unservedUses 19 = .ok (.iload_n 2, 1) := by decide +kernel
theorem dX0_unservedUses_20 : decode cX0_unservedUses 20 = .ok (.invokevirtual 112, 3) := by decide +kernel
theorem dX0_unservedUses_23 : decode cX0_unservedUses 23 = .ok (.ireturn, 1) := by decide +kernel
set_option maxRecDepth 20000 in
theorem ggX0_unservedCount_X0_unservedUses : GoodIn wsX0_unservedCount wsX0_unservedUses := goodIn_r _ [7, 1, 8, 9, 10, 11, 12, 13, 14, 15, 16, 17, 18, 19, 20, 21, 22, 23, 6, 24, 25, 26, 27, 28, 29, 30, 31, 32, 33, 34, 35, 36, 37, 38, 39, 40, 41, 42, 43, 44, 45, 46, 47, 48, 56, 57, 58, 59, 60, 61, 62, 63, 64, 65, 66, 67, 68, 69, 70, 71, 72, 73, 74, 75, 76, 77] (by decide +kernel) (by decide +kernel)
set_option maxRecDepth 20000 in
theorem gX0_unservedCount_X0_unservedUses : GoodIn wsX0_unservedCount (wsV RX0 116 RX0 yX0_unservedUses wsX0_unservedUses) := goodIn_app (goodIn_of _ (by decide +kernel)) ggX0_unservedCount_X0_unservedUses
set_option maxRecDepth 20000 in
theorem ggX0_unservedCount_J6_bitCount_0f7a4 : GoodIn wsX0_unservedCount wsJ6_bitCount_0f7a4 := goodIn_r _ [52, 53, 54, 55] (by decide +kernel) (by decide +kernel)
set_option maxRecDepth 20000 in
theorem gX0_unservedCount_J6_bitCount_0f7a4 : GoodIn wsX0_unservedCount (va_wsS RX0 119 yJ6_bitCount_0f7a4 wsJ6_bitCount_0f7a4) := goodIn_app (goodIn_of _ (by decide +kernel)) ggX0_unservedCount_J6_bitCount_0f7a4
theorem dX0_unservedCount_0 : decode cX0_unservedCount 0 = .ok (.iconst 0, 1) := by decide +kernel
theorem dX0_unservedCount_1 : decode cX0_unservedCount 1 = .ok (.istore_n 2, 1) := by decide +kernel
theorem dX0_unservedCount_2 : decode cX0_unservedCount 2 = .ok (.iconst 0, 1) := by decide +kernel
theorem dX0_unservedCount_3 : decode cX0_unservedCount 3 = .ok (.istore_n 3, 1) := by decide +kernel
theorem dX0_unservedCount_4 : decode cX0_unservedCount 4 = .ok (.iload_n 3, 1) := by decide +kernel
theorem dX0_unservedCount_5 : decode cX0_unservedCount 5 = .ok (.aload_n 0, 1) := by decide +kernel
theorem dX0_unservedCount_6 : decode cX0_unservedCount 6 = .ok (.getfield 25, 3) := by decide +kernel
theorem dX0_unservedCount_9 : decode cX0_unservedCount 9 = .ok (.getfield 57, 3) := by decide +kernel
theorem dX0_unservedCount_12 : decode cX0_unservedCount 12 = .ok (.if_icmp .ge 21, 3) := by decide +kernel
theorem dX0_unservedCount_15 : decode cX0_unservedCount 15 = .ok (.iload_n 2, 1) := by decide +kernel
theorem dX0_unservedCount_16 : decode cX0_unservedCount 16 = .ok (.aload_n 0, 1) := by decide +kernel
theorem dX0_unservedCount_17 : decode cX0_unservedCount 17 = .ok (.iload_n 3, 1) := by decide +kernel
theorem dX0_unservedCount_18 : decode cX0_unservedCount 18 = .ok (.iload_n 1, 1) := by decide +kernel
theorem dX0_unservedCount_19 : decode cX0_unservedCount 19 = .ok (.invokevirtual 116, 3) := by decide +kernel
theorem dX0_unservedCount_22 : decode cX0_unservedCount 22 = .ok (.invokestatic 119, 3) := by decide +kernel
theorem dX0_unservedCount_25 : decode cX0_unservedCount 25 = .ok (.iadd, 1) := by decide +kernel
theorem dX0_unservedCount_26 : decode cX0_unservedCount 26 = .ok (.istore_n 2, 1) := by decide +kernel
theorem dX0_unservedCount_27 : decode cX0_unservedCount 27 = .ok (.iinc 3 1, 3) := by decide +kernel
theorem dX0_unservedCount_30 : decode cX0_unservedCount 30 = .ok (.goto (-26), 3) := by decide +kernel
theorem dX0_unservedCount_33 : decode cX0_unservedCount 33 = .ok (.iload_n 2, 1) := by decide +kernel
theorem dX0_unservedCount_34 : decode cX0_unservedCount 34 = .ok (.ireturn, 1) := by decide +kernel
set_option maxRecDepth 20000 in
theorem ggX0_strandedUsers_X0_unservedUses : GoodIn wsX0_strandedUsers wsX0_unservedUses := goodIn_r _ [7, 1, 8, 9, 10, 11, 12, 13, 14, 15, 16, 17, 18, 19, 20, 21, 22, 23, 6, 24, 25, 26, 27, 28, 29, 30, 31, 32, 33, 34, 35, 36, 37, 38, 39, 40, 41, 42, 43, 44, 45, 46, 47, 48, 49, 50, 51, 52, 53, 54, 55, 56, 57, 58, 59, 60, 61, 62, 63, 64, 65, 66, 67, 68, 69, 70] (by decide +kernel) (by decide +kernel)
set_option maxRecDepth 20000 in
theorem gX0_strandedUsers_X0_unservedUses : GoodIn wsX0_strandedUsers (wsV RX0 116 RX0 yX0_unservedUses wsX0_unservedUses) := goodIn_app (goodIn_of _ (by decide +kernel)) ggX0_strandedUsers_X0_unservedUses
theorem dX0_strandedUsers_0 : decode cX0_strandedUsers 0 = .ok (.iconst 0, 1) := by decide +kernel
theorem dX0_strandedUsers_1 : decode cX0_strandedUsers 1 = .ok (.istore_n 2, 1) := by decide +kernel
theorem dX0_strandedUsers_2 : decode cX0_strandedUsers 2 = .ok (.iconst 0, 1) := by decide +kernel
theorem dX0_strandedUsers_3 : decode cX0_strandedUsers 3 = .ok (.istore_n 3, 1) := by decide +kernel
theorem dX0_strandedUsers_4 : decode cX0_strandedUsers 4 = .ok (.iload_n 3, 1) := by decide +kernel
theorem dX0_strandedUsers_5 : decode cX0_strandedUsers 5 = .ok (.aload_n 0, 1) := by decide +kernel
theorem dX0_strandedUsers_6 : decode cX0_strandedUsers 6 = .ok (.getfield 25, 3) := by decide +kernel
theorem dX0_strandedUsers_9 : decode cX0_strandedUsers 9 = .ok (.getfield 57, 3) := by decide +kernel
theorem dX0_strandedUsers_12 : decode cX0_strandedUsers 12 = .ok (.if_icmp .ge 24, 3) := by decide +kernel
theorem dX0_strandedUsers_15 : decode cX0_strandedUsers 15 = .ok (.aload_n 0, 1) := by decide +kernel
theorem dX0_strandedUsers_16 : decode cX0_strandedUsers 16 = .ok (.iload_n 3, 1) := by decide +kernel
theorem dX0_strandedUsers_17 : decode cX0_strandedUsers 17 = .ok (.iload_n 1, 1) := by decide +kernel
theorem dX0_strandedUsers_18 : decode cX0_strandedUsers 18 = .ok (.invokevirtual 116, 3) := by decide +kernel
theorem dX0_strandedUsers_21 : decode cX0_strandedUsers 21 = .ok (.ifCond .eq 9, 3) := by decide +kernel
theorem dX0_strandedUsers_24 : decode cX0_strandedUsers 24 = .ok (.iload_n 2, 1) := by decide +kernel
theorem dX0_strandedUsers_25 : decode cX0_strandedUsers 25 = .ok (.iconst 1, 1) := by decide +kernel
theorem dX0_strandedUsers_26 : decode cX0_strandedUsers 26 = .ok (.iload_n 3, 1) := by decide +kernel
theorem dX0_strandedUsers_27 : decode cX0_strandedUsers 27 = .ok (.ishl, 1) := by decide +kernel
theorem dX0_strandedUsers_28 : decode cX0_strandedUsers 28 = .ok (.ior, 1) := by decide +kernel
theorem dX0_strandedUsers_29 : decode cX0_strandedUsers 29 = .ok (.istore_n 2, 1) := by decide +kernel
theorem dX0_strandedUsers_30 : decode cX0_strandedUsers 30 = .ok (.iinc 3 1, 3) := by decide +kernel
theorem dX0_strandedUsers_33 : decode cX0_strandedUsers 33 = .ok (.goto (-29), 3) := by decide +kernel
theorem dX0_strandedUsers_36 : decode cX0_strandedUsers 36 = .ok (.iload_n 2, 1) := by decide +kernel
theorem dX0_strandedUsers_37 : decode cX0_strandedUsers 37 = .ok (.ireturn, 1) := by decide +kernel
set_option maxRecDepth 20000 in
theorem ggX0_costOn_X4_isAlive : GoodIn wsX0_costOn wsX4_isAlive := goodIn_r _ [9, 10, 11, 34, 35, 36, 37, 38] (by decide +kernel) (by decide +kernel)
set_option maxRecDepth 20000 in
theorem gX0_costOn_X4_isAlive : GoodIn wsX0_costOn (wsV RX0 109 RX4 yX4_isAlive wsX4_isAlive) := goodIn_app (goodIn_of _ (by decide +kernel)) ggX0_costOn_X4_isAlive
set_option maxRecDepth 20000 in
theorem ggX0_costOn_X5_contains : GoodIn wsX0_costOn wsX5_contains := goodIn_r _ [14] (by decide +kernel) (by decide +kernel)
set_option maxRecDepth 20000 in
theorem gX0_costOn_X5_contains_n49 : GoodIn wsX0_costOn (wsX5_contains) := ggX0_costOn_X5_contains
set_option maxRecDepth 20000 in
theorem ggX0_costOn_X2_lowestPrice : GoodIn wsX0_costOn wsX2_lowestPrice := goodIn_r _ [19, 20, 21, 22, 23, 24, 25, 18, 26, 27, 28, 29, 39, 40, 41, 42, 43, 44] (by decide +kernel) (by decide +kernel)
set_option maxRecDepth 20000 in
theorem gX0_costOn_X2_lowestPrice : GoodIn wsX0_costOn (wsV RX0 124 RX2 yX2_lowestPrice wsX2_lowestPrice) := goodIn_app (goodIn_of _ (by decide +kernel)) ggX0_costOn_X2_lowestPrice
theorem dX0_costOn_0 : decode cX0_costOn 0 = .ok (.aload_n 0, 1) := by decide +kernel
theorem dX0_costOn_1 : decode cX0_costOn 1 = .ok (.getfield 12, 3) := by decide +kernel
theorem dX0_costOn_4 : decode cX0_costOn 4 = .ok (.iload_n 2, 1) := by decide +kernel
theorem dX0_costOn_5 : decode cX0_costOn 5 = .ok (.iload_n 3, 1) := by decide +kernel
theorem dX0_costOn_6 : decode cX0_costOn 6 = .ok (.invokevirtual 109, 3) := by decide +kernel
theorem dX0_costOn_9 : decode cX0_costOn 9 = .ok (.ifCond .ne 5, 3) := by decide +kernel
theorem dX0_costOn_12 : decode cX0_costOn 12 = .ok (.iconst 0, 1) := by decide +kernel
theorem dX0_costOn_13 : decode cX0_costOn 13 = .ok (.ireturn, 1) := by decide +kernel
theorem dX0_costOn_14 : decode cX0_costOn 14 = .ok (.iload_n 1, 1) := by decide +kernel
theorem dX0_costOn_15 : decode cX0_costOn 15 = .ok (.aload_n 0, 1) := by decide +kernel
theorem dX0_costOn_16 : decode cX0_costOn 16 = .ok (.getfield 12, 3) := by decide +kernel
theorem dX0_costOn_19 : decode cX0_costOn 19 = .ok (.getfield 53, 3) := by decide +kernel
theorem dX0_costOn_22 : decode cX0_costOn 22 = .ok (.iload_n 2, 1) := by decide +kernel
theorem dX0_costOn_23 : decode cX0_costOn 23 = .ok (.iaload, 1) := by decide +kernel
theorem dX0_costOn_24 : decode cX0_costOn 24 = .ok (.iconst (-1), 1) := by decide +kernel
theorem dX0_costOn_25 : decode cX0_costOn 25 = .ok (.ixor, 1) := by decide +kernel
theorem dX0_costOn_26 : decode cX0_costOn 26 = .ok (.iand, 1) := by decide +kernel
theorem dX0_costOn_27 : decode cX0_costOn 27 = .ok (.istore 4, 2) := by decide +kernel
theorem dX0_costOn_29 : decode cX0_costOn 29 = .ok (.iconst 0, 1) := by decide +kernel
theorem dX0_costOn_30 : decode cX0_costOn 30 = .ok (.istore 5, 2) := by decide +kernel
theorem dX0_costOn_32 : decode cX0_costOn 32 = .ok (.iconst 0, 1) := by decide +kernel
theorem dX0_costOn_33 : decode cX0_costOn 33 = .ok (.istore 6, 2) := by decide +kernel
theorem dX0_costOn_35 : decode cX0_costOn 35 = .ok (.iload 6, 2) := by decide +kernel
theorem dX0_costOn_37 : decode cX0_costOn 37 = .ok (.aload_n 0, 1) := by decide +kernel
theorem dX0_costOn_38 : decode cX0_costOn 38 = .ok (.getfield 18, 3) := by decide +kernel
theorem dX0_costOn_41 : decode cX0_costOn 41 = .ok (.if_icmp .ge 35, 3) := by decide +kernel
theorem dX0_costOn_44 : decode cX0_costOn 44 = .ok (.iload 4, 2) := by decide +kernel
theorem dX0_costOn_46 : decode cX0_costOn 46 = .ok (.iload 6, 2) := by decide +kernel
theorem dX0_costOn_48 : decode cX0_costOn 48 = .ok (.invokestatic 49, 3) := by decide +kernel
theorem dX0_costOn_51 : decode cX0_costOn 51 = .ok (.ifCond .eq 19, 3) := by decide +kernel
theorem dX0_costOn_54 : decode cX0_costOn 54 = .ok (.iload 5, 2) := by decide +kernel
theorem dX0_costOn_56 : decode cX0_costOn 56 = .ok (.aload_n 0, 1) := by decide +kernel
theorem dX0_costOn_57 : decode cX0_costOn 57 = .ok (.getfield 32, 3) := by decide +kernel
theorem dX0_costOn_60 : decode cX0_costOn 60 = .ok (.iload 6, 2) := by decide +kernel
theorem dX0_costOn_62 : decode cX0_costOn 62 = .ok (.iload_n 2, 1) := by decide +kernel
theorem dX0_costOn_63 : decode cX0_costOn 63 = .ok (.iload_n 3, 1) := by decide +kernel
theorem dX0_costOn_64 : decode cX0_costOn 64 = .ok (.invokevirtual 124, 3) := by decide +kernel
theorem dX0_costOn_67 : decode cX0_costOn 67 = .ok (.iadd, 1) := by decide +kernel
theorem dX0_costOn_68 : decode cX0_costOn 68 = .ok (.istore 5, 2) := by decide +kernel
theorem dX0_costOn_70 : decode cX0_costOn 70 = .ok (.iinc 6 1, 3) := by decide +kernel
theorem dX0_costOn_73 : decode cX0_costOn 73 = .ok (.goto (-38), 3) := by decide +kernel
theorem dX0_costOn_76 : decode cX0_costOn 76 = .ok (.iload 5, 2) := by decide +kernel
theorem dX0_costOn_78 : decode cX0_costOn 78 = .ok (.ireturn, 1) := by decide +kernel
set_option maxRecDepth 20000 in
theorem ggX0_costOfAllOn_X3_placeOn : GoodIn wsX0_costOfAllOn wsX3_placeOn := goodIn_r _ [8, 9, 10, 11, 12, 13, 14, 7, 15, 54, 55, 56, 57, 58, 59, 60] (by decide +kernel) (by decide +kernel)
set_option maxRecDepth 20000 in
theorem gX0_costOfAllOn_X3_placeOn : GoodIn wsX0_costOfAllOn (wsV RX0 102 RX3 yX3_placeOn wsX3_placeOn) := goodIn_app (goodIn_of _ (by decide +kernel)) ggX0_costOfAllOn_X3_placeOn
set_option maxRecDepth 20000 in
theorem ggX0_costOfAllOn_X0_costOn : GoodIn wsX0_costOfAllOn wsX0_costOn := goodIn_r _ [20, 21, 22, 23, 24, 25, 26, 27, 28, 29, 30, 31, 32, 33, 34, 35, 36, 37, 38, 39, 40, 41, 42, 43, 44, 45, 46, 47, 48, 49, 50, 51, 52, 53, 61, 62, 63, 64, 65, 66, 67, 68, 69, 70, 71] (by decide +kernel) (by decide +kernel)
set_option maxRecDepth 20000 in
theorem gX0_costOfAllOn_X0_costOn : GoodIn wsX0_costOfAllOn (wsV RX0 127 RX0 yX0_costOn wsX0_costOn) := goodIn_app (goodIn_of _ (by decide +kernel)) ggX0_costOfAllOn_X0_costOn
theorem dX0_costOfAllOn_0 : decode cX0_costOfAllOn 0 = .ok (.iconst 0, 1) := by decide +kernel
theorem dX0_costOfAllOn_1 : decode cX0_costOfAllOn 1 = .ok (.istore_n 2, 1) := by decide +kernel
theorem dX0_costOfAllOn_2 : decode cX0_costOfAllOn 2 = .ok (.iconst 0, 1) := by decide +kernel
theorem dX0_costOfAllOn_3 : decode cX0_costOfAllOn 3 = .ok (.istore_n 3, 1) := by decide +kernel
theorem dX0_costOfAllOn_4 : decode cX0_costOfAllOn 4 = .ok (.iload_n 3, 1) := by decide +kernel
theorem dX0_costOfAllOn_5 : decode cX0_costOfAllOn 5 = .ok (.aload_n 0, 1) := by decide +kernel
theorem dX0_costOfAllOn_6 : decode cX0_costOfAllOn 6 = .ok (.getfield 25, 3) := by decide +kernel
theorem dX0_costOfAllOn_9 : decode cX0_costOfAllOn 9 = .ok (.getfield 57, 3) := by decide +kernel
theorem dX0_costOfAllOn_12 : decode cX0_costOfAllOn 12 = .ok (.if_icmp .ge 35, 3) := by decide +kernel
theorem dX0_costOfAllOn_15 : decode cX0_costOfAllOn 15 = .ok (.iload_n 2, 1) := by decide +kernel
theorem dX0_costOfAllOn_16 : decode cX0_costOfAllOn 16 = .ok (.aload_n 0, 1) := by decide +kernel
theorem dX0_costOfAllOn_17 : decode cX0_costOfAllOn 17 = .ok (.aload_n 0, 1) := by decide +kernel
theorem dX0_costOfAllOn_18 : decode cX0_costOfAllOn 18 = .ok (.getfield 25, 3) := by decide +kernel
theorem dX0_costOfAllOn_21 : decode cX0_costOfAllOn 21 = .ok (.getfield 99, 3) := by decide +kernel
theorem dX0_costOfAllOn_24 : decode cX0_costOfAllOn 24 = .ok (.iload_n 3, 1) := by decide +kernel
theorem dX0_costOfAllOn_25 : decode cX0_costOfAllOn 25 = .ok (.iaload, 1) := by decide +kernel
theorem dX0_costOfAllOn_26 : decode cX0_costOfAllOn 26 = .ok (.aload_n 0, 1) := by decide +kernel
theorem dX0_costOfAllOn_27 : decode cX0_costOfAllOn 27 = .ok (.getfield 25, 3) := by decide +kernel
theorem dX0_costOfAllOn_30 : decode cX0_costOfAllOn 30 = .ok (.iload_n 3, 1) := by decide +kernel
theorem dX0_costOfAllOn_31 : decode cX0_costOfAllOn 31 = .ok (.iload_n 1, 1) := by decide +kernel
theorem dX0_costOfAllOn_32 : decode cX0_costOfAllOn 32 = .ok (.invokevirtual 102, 3) := by decide +kernel
theorem dX0_costOfAllOn_35 : decode cX0_costOfAllOn 35 = .ok (.iload_n 1, 1) := by decide +kernel
theorem dX0_costOfAllOn_36 : decode cX0_costOfAllOn 36 = .ok (.invokevirtual 127, 3) := by decide +kernel
theorem dX0_costOfAllOn_39 : decode cX0_costOfAllOn 39 = .ok (.iadd, 1) := by decide +kernel
theorem dX0_costOfAllOn_40 : decode cX0_costOfAllOn 40 = .ok (.istore_n 2, 1) := by decide +kernel
theorem dX0_costOfAllOn_41 : decode cX0_costOfAllOn 41 = .ok (.iinc 3 1, 3) := by decide +kernel
theorem dX0_costOfAllOn_44 : decode cX0_costOfAllOn 44 = .ok (.goto (-40), 3) := by decide +kernel
theorem dX0_costOfAllOn_47 : decode cX0_costOfAllOn 47 = .ok (.iload_n 2, 1) := by decide +kernel
theorem dX0_costOfAllOn_48 : decode cX0_costOfAllOn 48 = .ok (.ireturn, 1) := by decide +kernel
set_option maxRecDepth 20000 in
theorem ggX0_pairsLacking_X4_isAlive : GoodIn wsX0_pairsLacking wsX4_isAlive := goodIn_r _ [7, 8, 9, 65, 66, 67, 68, 69] (by decide +kernel) (by decide +kernel)
set_option maxRecDepth 20000 in
theorem gX0_pairsLacking_X4_isAlive : GoodIn wsX0_pairsLacking (wsV RX0 109 RX4 yX4_isAlive wsX4_isAlive) := goodIn_app (goodIn_of _ (by decide +kernel)) ggX0_pairsLacking_X4_isAlive
set_option maxRecDepth 20000 in
theorem ggX0_pairsLacking_X0_lackingOn : GoodIn wsX0_pairsLacking wsX0_lackingOn := goodIn_r _ [14, 15, 16, 17, 18, 19, 20, 21, 22, 23, 24, 25, 26, 27, 28, 29, 30, 31, 13, 32, 33, 34, 35, 36, 37, 1, 38, 39, 3, 4, 5, 6, 7, 8, 9, 40, 41, 42, 43, 44, 45, 46, 47, 48, 49, 50, 51, 52, 53, 61, 62, 63, 64, 70, 71, 72, 73, 74, 75, 76, 65, 66, 67, 68, 69, 77, 78, 79, 80, 81, 82] (by decide +kernel) (by decide +kernel)
set_option maxRecDepth 20000 in
theorem gX0_pairsLacking_X0_lackingOn : GoodIn wsX0_pairsLacking (wsV RX0 130 RX0 yX0_lackingOn wsX0_lackingOn) := goodIn_app (goodIn_of _ (by decide +kernel)) ggX0_pairsLacking_X0_lackingOn
set_option maxRecDepth 20000 in
theorem ggX0_pairsLacking_J6_bitCount_0f7a4 : GoodIn wsX0_pairsLacking wsJ6_bitCount_0f7a4 := goodIn_r _ [57, 58, 59, 60] (by decide +kernel) (by decide +kernel)
set_option maxRecDepth 20000 in
theorem gX0_pairsLacking_J6_bitCount_0f7a4 : GoodIn wsX0_pairsLacking (va_wsS RX0 119 yJ6_bitCount_0f7a4 wsJ6_bitCount_0f7a4) := goodIn_app (goodIn_of _ (by decide +kernel)) ggX0_pairsLacking_J6_bitCount_0f7a4
theorem dX0_pairsLacking_0 : decode cX0_pairsLacking 0 = .ok (.iconst 0, 1) := by decide +kernel
theorem dX0_pairsLacking_1 : decode cX0_pairsLacking 1 = .ok (.istore_n 2, 1) := by decide +kernel
theorem dX0_pairsLacking_2 : decode cX0_pairsLacking 2 = .ok (.iconst 0, 1) := by decide +kernel
theorem dX0_pairsLacking_3 : decode cX0_pairsLacking 3 = .ok (.istore_n 3, 1) := by decide +kernel
theorem dX0_pairsLacking_4 : decode cX0_pairsLacking 4 = .ok (.iload_n 3, 1) := by decide +kernel
theorem dX0_pairsLacking_5 : decode cX0_pairsLacking 5 = .ok (.aload_n 0, 1) := by decide +kernel
theorem dX0_pairsLacking_6 : decode cX0_pairsLacking 6 = .ok (.getfield 12, 3) := by decide +kernel
theorem dX0_pairsLacking_9 : decode cX0_pairsLacking 9 = .ok (.getfield 46, 3) := by decide +kernel
theorem dX0_pairsLacking_12 : decode cX0_pairsLacking 12 = .ok (.if_icmp .ge 33, 3) := by decide +kernel
theorem dX0_pairsLacking_15 : decode cX0_pairsLacking 15 = .ok (.aload_n 0, 1) := by decide +kernel
theorem dX0_pairsLacking_16 : decode cX0_pairsLacking 16 = .ok (.getfield 12, 3) := by decide +kernel
theorem dX0_pairsLacking_19 : decode cX0_pairsLacking 19 = .ok (.iload_n 3, 1) := by decide +kernel
theorem dX0_pairsLacking_20 : decode cX0_pairsLacking 20 = .ok (.iload_n 1, 1) := by decide +kernel
theorem dX0_pairsLacking_21 : decode cX0_pairsLacking 21 = .ok (.invokevirtual 109, 3) := by decide +kernel
theorem dX0_pairsLacking_24 : decode cX0_pairsLacking 24 = .ok (.ifCond .eq 15, 3) := by decide +kernel
theorem dX0_pairsLacking_27 : decode cX0_pairsLacking 27 = .ok (.iload_n 2, 1) := by decide +kernel
theorem dX0_pairsLacking_28 : decode cX0_pairsLacking 28 = .ok (.aload_n 0, 1) := by decide +kernel
theorem dX0_pairsLacking_29 : decode cX0_pairsLacking 29 = .ok (.iload_n 3, 1) := by decide +kernel
theorem dX0_pairsLacking_30 : decode cX0_pairsLacking 30 = .ok (.iload_n 1, 1) := by decide +kernel
theorem dX0_pairsLacking_31 : decode cX0_pairsLacking 31 = .ok (.invokevirtual 130, 3) := by decide +kernel
theorem dX0_pairsLacking_34 : decode cX0_pairsLacking 34 = .ok (.invokestatic 119, 3) := by decide +kernel
theorem dX0_pairsLacking_37 : decode cX0_pairsLacking 37 = .ok (.iadd, 1) := by decide +kernel
theorem dX0_pairsLacking_38 : decode cX0_pairsLacking 38 = .ok (.istore_n 2, 1) := by decide +kernel
theorem dX0_pairsLacking_39 : decode cX0_pairsLacking 39 = .ok (.iinc 3 1, 3) := by decide +kernel
theorem dX0_pairsLacking_42 : decode cX0_pairsLacking 42 = .ok (.goto (-38), 3) := by decide +kernel
theorem dX0_pairsLacking_45 : decode cX0_pairsLacking 45 = .ok (.iload_n 2, 1) := by decide +kernel
theorem dX0_pairsLacking_46 : decode cX0_pairsLacking 46 = .ok (.ireturn, 1) := by decide +kernel
set_option maxRecDepth 20000 in
theorem ggX0_lackingOn_X3_placeOn : GoodIn wsX0_lackingOn wsX3_placeOn := goodIn_r _ [7, 8, 9, 10, 11, 12, 13, 6, 14, 53, 54, 55, 56, 57, 58, 59] (by decide +kernel) (by decide +kernel)
set_option maxRecDepth 20000 in
theorem gX0_lackingOn_X3_placeOn : GoodIn wsX0_lackingOn (wsV RX0 102 RX3 yX3_placeOn wsX3_placeOn) := goodIn_app (goodIn_of _ (by decide +kernel)) ggX0_lackingOn_X3_placeOn
set_option maxRecDepth 20000 in
theorem ggX0_lackingOn_X0_unservedUses : GoodIn wsX0_lackingOn wsX0_unservedUses := goodIn_r _ [19, 1, 20, 3, 4, 5, 6, 7, 8, 9, 10, 11, 12, 13, 14, 21, 22, 23, 18, 24, 25, 26, 27, 28, 29, 30, 31, 32, 33, 34, 35, 36, 37, 38, 39, 40, 41, 42, 43, 44, 45, 46, 47, 48, 49, 50, 51, 52, 53, 54, 55, 56, 57, 58, 59, 60, 61, 62, 63, 64, 65, 66, 67, 68, 69, 70] (by decide +kernel) (by decide +kernel)
set_option maxRecDepth 20000 in
theorem gX0_lackingOn_X0_unservedUses : GoodIn wsX0_lackingOn (wsV RX0 116 RX0 yX0_unservedUses wsX0_unservedUses) := goodIn_app (goodIn_of _ (by decide +kernel)) ggX0_lackingOn_X0_unservedUses
theorem dX0_lackingOn_0 : decode cX0_lackingOn 0 = .ok (.iconst 0, 1) := by decide +kernel
theorem dX0_lackingOn_1 : decode cX0_lackingOn 1 = .ok (.istore_n 3, 1) := by decide +kernel
theorem dX0_lackingOn_2 : decode cX0_lackingOn 2 = .ok (.iconst 0, 1) := by decide +kernel
theorem dX0_lackingOn_3 : decode cX0_lackingOn 3 = .ok (.istore 4, 2) := by decide +kernel
theorem dX0_lackingOn_5 : decode cX0_lackingOn 5 = .ok (.iload 4, 2) := by decide +kernel
theorem dX0_lackingOn_7 : decode cX0_lackingOn 7 = .ok (.aload_n 0, 1) := by decide +kernel
theorem dX0_lackingOn_8 : decode cX0_lackingOn 8 = .ok (.getfield 25, 3) := by decide +kernel
theorem dX0_lackingOn_11 : decode cX0_lackingOn 11 = .ok (.getfield 57, 3) := by decide +kernel
theorem dX0_lackingOn_14 : decode cX0_lackingOn 14 = .ok (.if_icmp .ge 33, 3) := by decide +kernel
theorem dX0_lackingOn_17 : decode cX0_lackingOn 17 = .ok (.aload_n 0, 1) := by decide +kernel
theorem dX0_lackingOn_18 : decode cX0_lackingOn 18 = .ok (.getfield 25, 3) := by decide +kernel
theorem dX0_lackingOn_21 : decode cX0_lackingOn 21 = .ok (.iload 4, 2) := by decide +kernel
theorem dX0_lackingOn_23 : decode cX0_lackingOn 23 = .ok (.iload_n 2, 1) := by decide +kernel
theorem dX0_lackingOn_24 : decode cX0_lackingOn 24 = .ok (.invokevirtual 102, 3) := by decide +kernel
theorem dX0_lackingOn_27 : decode cX0_lackingOn 27 = .ok (.iload_n 1, 1) := by decide +kernel
theorem dX0_lackingOn_28 : decode cX0_lackingOn 28 = .ok (.if_icmp .ne 13, 3) := by decide +kernel
theorem dX0_lackingOn_31 : decode cX0_lackingOn 31 = .ok (.iload_n 3, 1) := by decide +kernel
theorem dX0_lackingOn_32 : decode cX0_lackingOn 32 = .ok (.aload_n 0, 1) := by decide +kernel
theorem dX0_lackingOn_33 : decode cX0_lackingOn 33 = .ok (.iload 4, 2) := by decide +kernel
theorem dX0_lackingOn_35 : decode cX0_lackingOn 35 = .ok (.iload_n 2, 1) := by decide +kernel
theorem dX0_lackingOn_36 : decode cX0_lackingOn 36 = .ok (.invokevirtual 116, 3) := by decide +kernel
theorem dX0_lackingOn_39 : decode cX0_lackingOn 39 = .ok (.ior, 1) := by decide +kernel
theorem dX0_lackingOn_40 : decode cX0_lackingOn 40 = .ok (.istore_n 3, 1) := by decide +kernel
theorem dX0_lackingOn_41 : decode cX0_lackingOn 41 = .ok (.iinc 4 1, 3) := by decide +kernel
theorem dX0_lackingOn_44 : decode cX0_lackingOn 44 = .ok (.goto (-39), 3) := by decide +kernel
theorem dX0_lackingOn_47 : decode cX0_lackingOn 47 = .ok (.iload_n 3, 1) := by decide +kernel
theorem dX0_lackingOn_48 : decode cX0_lackingOn 48 = .ok (.ireturn, 1) := by decide +kernel
set_option maxRecDepth 20000 in
theorem ggX0_versionServingMost_X0_unserved : GoodIn wsX0_versionServingMost wsX0_unserved := goodIn_r _ [7, 1, 8, 9, 10, 11, 12, 13, 14, 15, 16, 17, 18, 19, 20, 21, 22, 23, 24, 25, 26, 27, 28, 29, 30, 38, 39, 40, 41, 42, 43, 44, 45, 46, 47, 48, 49, 50, 51, 52] (by decide +kernel) (by decide +kernel)
set_option maxRecDepth 20000 in
theorem gX0_versionServingMost_X0_unserved : GoodIn wsX0_versionServingMost (wsV RX0 112 RX0 yX0_unserved wsX0_unserved) := goodIn_app (goodIn_of _ (by decide +kernel)) ggX0_versionServingMost_X0_unserved
set_option maxRecDepth 20000 in
theorem ggX0_versionServingMost_J6_bitCount_0f7a4 : GoodIn wsX0_versionServingMost wsJ6_bitCount_0f7a4 := goodIn_r _ [34, 35, 36, 37] (by decide +kernel) (by decide +kernel)
set_option maxRecDepth 20000 in
theorem gX0_versionServingMost_J6_bitCount_0f7a4 : GoodIn wsX0_versionServingMost (va_wsS RX0 119 yJ6_bitCount_0f7a4 wsJ6_bitCount_0f7a4) := goodIn_app (goodIn_of _ (by decide +kernel)) ggX0_versionServingMost_J6_bitCount_0f7a4
set_option maxRecDepth 20000 in
theorem ggX0_versionServingMost_X4_isAlive : GoodIn wsX0_versionServingMost wsX4_isAlive := goodIn_r _ [14, 15, 16, 42, 43, 44, 45, 46] (by decide +kernel) (by decide +kernel)
set_option maxRecDepth 20000 in
theorem gX0_versionServingMost_X4_isAlive : GoodIn wsX0_versionServingMost (wsV RX0 109 RX4 yX4_isAlive wsX4_isAlive) := goodIn_app (goodIn_of _ (by decide +kernel)) ggX0_versionServingMost_X4_isAlive
theorem dX0_versionServingMost_0 : decode cX0_versionServingMost 0 = .ok (.iconst (-1), 1) := by decide +kernel
theorem dX0_versionServingMost_1 : decode cX0_versionServingMost 1 = .ok (.istore_n 3, 1) := by decide +kernel
theorem dX0_versionServingMost_2 : decode cX0_versionServingMost 2 = .ok (.iconst 0, 1) := by decide +kernel
theorem dX0_versionServingMost_3 : decode cX0_versionServingMost 3 = .ok (.istore 4, 2) := by decide +kernel
theorem dX0_versionServingMost_5 : decode cX0_versionServingMost 5 = .ok (.iconst 0, 1) := by decide +kernel
theorem dX0_versionServingMost_6 : decode cX0_versionServingMost 6 = .ok (.istore 5, 2) := by decide +kernel
theorem dX0_versionServingMost_8 : decode cX0_versionServingMost 8 = .ok (.iload 5, 2) := by decide +kernel
theorem dX0_versionServingMost_10 : decode cX0_versionServingMost 10 = .ok (.aload_n 0, 1) := by decide +kernel
theorem dX0_versionServingMost_11 : decode cX0_versionServingMost 11 = .ok (.getfield 12, 3) := by decide +kernel
theorem dX0_versionServingMost_14 : decode cX0_versionServingMost 14 = .ok (.getfield 46, 3) := by decide +kernel
theorem dX0_versionServingMost_17 : decode cX0_versionServingMost 17 = .ok (.if_icmp .ge 54, 3) := by decide +kernel
theorem dX0_versionServingMost_20 : decode cX0_versionServingMost 20 = .ok (.aload_n 0, 1) := by decide +kernel
theorem dX0_versionServingMost_21 : decode cX0_versionServingMost 21 = .ok (.iload_n 1, 1) := by decide +kernel
theorem dX0_versionServingMost_22 : decode cX0_versionServingMost 22 = .ok (.iload 5, 2) := by decide +kernel
theorem dX0_versionServingMost_24 : decode cX0_versionServingMost 24 = .ok (.iload_n 2, 1) := by decide +kernel
theorem dX0_versionServingMost_25 : decode cX0_versionServingMost 25 = .ok (.invokevirtual 112, 3) := by decide +kernel
theorem dX0_versionServingMost_28 : decode cX0_versionServingMost 28 = .ok (.invokestatic 119, 3) := by decide +kernel
theorem dX0_versionServingMost_31 : decode cX0_versionServingMost 31 = .ok (.istore 6, 2) := by decide +kernel
theorem dX0_versionServingMost_33 : decode cX0_versionServingMost 33 = .ok (.aload_n 0, 1) := by decide +kernel
theorem dX0_versionServingMost_34 : decode cX0_versionServingMost 34 = .ok (.getfield 12, 3) := by decide +kernel
theorem dX0_versionServingMost_37 : decode cX0_versionServingMost 37 = .ok (.iload 5, 2) := by decide +kernel
theorem dX0_versionServingMost_39 : decode cX0_versionServingMost 39 = .ok (.iload_n 2, 1) := by decide +kernel
theorem dX0_versionServingMost_40 : decode cX0_versionServingMost 40 = .ok (.invokevirtual 109, 3) := by decide +kernel
theorem dX0_versionServingMost_43 : decode cX0_versionServingMost 43 = .ok (.ifCond .eq 22, 3) := by decide +kernel
theorem dX0_versionServingMost_46 : decode cX0_versionServingMost 46 = .ok (.iload_n 3, 1) := by decide +kernel
theorem dX0_versionServingMost_47 : decode cX0_versionServingMost 47 = .ok (.iconst (-1), 1) := by decide +kernel
theorem dX0_versionServingMost_48 : decode cX0_versionServingMost 48 = .ok (.if_icmp .eq 10, 3) := by decide +kernel
theorem dX0_versionServingMost_51 : decode cX0_versionServingMost 51 = .ok (.iload 6, 2) := by decide +kernel
theorem dX0_versionServingMost_53 : decode cX0_versionServingMost 53 = .ok (.iload 4, 2) := by decide +kernel
theorem dX0_versionServingMost_55 : decode cX0_versionServingMost 55 = .ok (.if_icmp .ge 10, 3) := by decide +kernel
theorem dX0_versionServingMost_58 : decode cX0_versionServingMost 58 = .ok (.iload 5, 2) := by decide +kernel
theorem dX0_versionServingMost_60 : decode cX0_versionServingMost 60 = .ok (.istore_n 3, 1) := by decide +kernel
theorem dX0_versionServingMost_61 : decode cX0_versionServingMost 61 = .ok (.iload 6, 2) := by decide +kernel
theorem dX0_versionServingMost_63 : decode cX0_versionServingMost 63 = .ok (.istore 4, 2) := by decide +kernel
theorem dX0_versionServingMost_65 : decode cX0_versionServingMost 65 = .ok (.iinc 5 1, 3) := by decide +kernel
theorem dX0_versionServingMost_68 : decode cX0_versionServingMost 68 = .ok (.goto (-60), 3) := by decide +kernel
theorem dX0_versionServingMost_71 : decode cX0_versionServingMost 71 = .ok (.iload_n 3, 1) := by decide +kernel
theorem dX0_versionServingMost_72 : decode cX0_versionServingMost 72 = .ok (.ireturn, 1) := by decide +kernel
set_option maxRecDepth 20000 in
theorem ggX0_nextChange_X0_earlier : GoodIn wsX0_nextChange wsX0_earlier := goodIn_r _ [15] (by decide +kernel) (by decide +kernel)
set_option maxRecDepth 20000 in
theorem gX0_nextChange_X0_earlier : GoodIn wsX0_nextChange (va_wsS RX0 133 yX0_earlier wsX0_earlier) := goodIn_app (goodIn_of _ (by decide +kernel)) ggX0_nextChange_X0_earlier
theorem dX0_nextChange_0 : decode cX0_nextChange 0 = .ok (.sipush 1000, 3) := by decide +kernel
theorem dX0_nextChange_3 : decode cX0_nextChange 3 = .ok (.istore_n 2, 1) := by decide +kernel
theorem dX0_nextChange_4 : decode cX0_nextChange 4 = .ok (.iconst 0, 1) := by decide +kernel
theorem dX0_nextChange_5 : decode cX0_nextChange 5 = .ok (.istore_n 3, 1) := by decide +kernel
theorem dX0_nextChange_6 : decode cX0_nextChange 6 = .ok (.iload_n 3, 1) := by decide +kernel
theorem dX0_nextChange_7 : decode cX0_nextChange 7 = .ok (.aload_n 0, 1) := by decide +kernel
theorem dX0_nextChange_8 : decode cX0_nextChange 8 = .ok (.getfield 12, 3) := by decide +kernel
theorem dX0_nextChange_11 : decode cX0_nextChange 11 = .ok (.getfield 46, 3) := by decide +kernel
theorem dX0_nextChange_14 : decode cX0_nextChange 14 = .ok (.if_icmp .ge 39, 3) := by decide +kernel
theorem dX0_nextChange_17 : decode cX0_nextChange 17 = .ok (.iload_n 2, 1) := by decide +kernel
theorem dX0_nextChange_18 : decode cX0_nextChange 18 = .ok (.aload_n 0, 1) := by decide +kernel
theorem dX0_nextChange_19 : decode cX0_nextChange 19 = .ok (.getfield 12, 3) := by decide +kernel
theorem dX0_nextChange_22 : decode cX0_nextChange 22 = .ok (.getfield 76, 3) := by decide +kernel
theorem dX0_nextChange_25 : decode cX0_nextChange 25 = .ok (.iload_n 3, 1) := by decide +kernel
theorem dX0_nextChange_26 : decode cX0_nextChange 26 = .ok (.iaload, 1) := by decide +kernel
theorem dX0_nextChange_27 : decode cX0_nextChange 27 = .ok (.iload_n 1, 1) := by decide +kernel
theorem dX0_nextChange_28 : decode cX0_nextChange 28 = .ok (.invokestatic 133, 3) := by decide +kernel
theorem dX0_nextChange_31 : decode cX0_nextChange 31 = .ok (.istore_n 2, 1) := by decide +kernel
theorem dX0_nextChange_32 : decode cX0_nextChange 32 = .ok (.iload_n 2, 1) := by decide +kernel
theorem dX0_nextChange_33 : decode cX0_nextChange 33 = .ok (.aload_n 0, 1) := by decide +kernel
theorem dX0_nextChange_34 : decode cX0_nextChange 34 = .ok (.getfield 12, 3) := by decide +kernel
theorem dX0_nextChange_37 : decode cX0_nextChange 37 = .ok (.getfield 72, 3) := by decide +kernel
theorem dX0_nextChange_40 : decode cX0_nextChange 40 = .ok (.iload_n 3, 1) := by decide +kernel
theorem dX0_nextChange_41 : decode cX0_nextChange 41 = .ok (.iaload, 1) := by decide +kernel
theorem dX0_nextChange_42 : decode cX0_nextChange 42 = .ok (.iload_n 1, 1) := by decide +kernel
theorem dX0_nextChange_43 : decode cX0_nextChange 43 = .ok (.invokestatic 133, 3) := by decide +kernel
theorem dX0_nextChange_46 : decode cX0_nextChange 46 = .ok (.istore_n 2, 1) := by decide +kernel
theorem dX0_nextChange_47 : decode cX0_nextChange 47 = .ok (.iinc 3 1, 3) := by decide +kernel
theorem dX0_nextChange_50 : decode cX0_nextChange 50 = .ok (.goto (-44), 3) := by decide +kernel
theorem dX0_nextChange_53 : decode cX0_nextChange 53 = .ok (.iconst 0, 1) := by decide +kernel
theorem dX0_nextChange_54 : decode cX0_nextChange 54 = .ok (.istore_n 3, 1) := by decide +kernel
theorem dX0_nextChange_55 : decode cX0_nextChange 55 = .ok (.iload_n 3, 1) := by decide +kernel
theorem dX0_nextChange_56 : decode cX0_nextChange 56 = .ok (.aload_n 0, 1) := by decide +kernel
theorem dX0_nextChange_57 : decode cX0_nextChange 57 = .ok (.getfield 25, 3) := by decide +kernel
theorem dX0_nextChange_60 : decode cX0_nextChange 60 = .ok (.getfield 57, 3) := by decide +kernel
theorem dX0_nextChange_63 : decode cX0_nextChange 63 = .ok (.if_icmp .ge 24, 3) := by decide +kernel
theorem dX0_nextChange_66 : decode cX0_nextChange 66 = .ok (.iload_n 2, 1) := by decide +kernel
theorem dX0_nextChange_67 : decode cX0_nextChange 67 = .ok (.aload_n 0, 1) := by decide +kernel
theorem dX0_nextChange_68 : decode cX0_nextChange 68 = .ok (.getfield 25, 3) := by decide +kernel
theorem dX0_nextChange_71 : decode cX0_nextChange 71 = .ok (.getfield 69, 3) := by decide +kernel
theorem dX0_nextChange_74 : decode cX0_nextChange 74 = .ok (.iload_n 3, 1) := by decide +kernel
theorem dX0_nextChange_75 : decode cX0_nextChange 75 = .ok (.iaload, 1) := by decide +kernel
theorem dX0_nextChange_76 : decode cX0_nextChange 76 = .ok (.iload_n 1, 1) := by decide +kernel
theorem dX0_nextChange_77 : decode cX0_nextChange 77 = .ok (.invokestatic 133, 3) := by decide +kernel
theorem dX0_nextChange_80 : decode cX0_nextChange 80 = .ok (.istore_n 2, 1) := by decide +kernel
theorem dX0_nextChange_81 : decode cX0_nextChange 81 = .ok (.iinc 3 1, 3) := by decide +kernel
theorem dX0_nextChange_84 : decode cX0_nextChange 84 = .ok (.goto (-29), 3) := by decide +kernel
theorem dX0_nextChange_87 : decode cX0_nextChange 87 = .ok (.iconst 0, 1) := by decide +kernel
theorem dX0_nextChange_88 : decode cX0_nextChange 88 = .ok (.istore_n 3, 1) := by decide +kernel
theorem dX0_nextChange_89 : decode cX0_nextChange 89 = .ok (.iload_n 3, 1) := by decide +kernel
theorem dX0_nextChange_90 : decode cX0_nextChange 90 = .ok (.aload_n 0, 1) := by decide +kernel
theorem dX0_nextChange_91 : decode cX0_nextChange 91 = .ok (.getfield 32, 3) := by decide +kernel
theorem dX0_nextChange_94 : decode cX0_nextChange 94 = .ok (.getfield 75, 3) := by decide +kernel
theorem dX0_nextChange_97 : decode cX0_nextChange 97 = .ok (.if_icmp .ge 41, 3) := by decide +kernel
theorem dX0_nextChange_100 : decode cX0_nextChange 100 = .ok (.iload_n 2, 1) := by decide +kernel
theorem dX0_nextChange_101 : decode cX0_nextChange 101 = .ok (.aload_n 0, 1) := by decide +kernel
theorem dX0_nextChange_102 : decode cX0_nextChange 102 = .ok (.getfield 32, 3) := by decide +kernel
theorem dX0_nextChange_105 : decode cX0_nextChange 105 = .ok (.getfield 136, 3) := by decide +kernel
theorem dX0_nextChange_108 : decode cX0_nextChange 108 = .ok (.iload_n 3, 1) := by decide +kernel
theorem dX0_nextChange_109 : decode cX0_nextChange 109 = .ok (.iaload, 1) := by decide +kernel
theorem dX0_nextChange_110 : decode cX0_nextChange 110 = .ok (.iload_n 1, 1) := by decide +kernel
theorem dX0_nextChange_111 : decode cX0_nextChange 111 = .ok (.invokestatic 133, 3) := by decide +kernel
theorem dX0_nextChange_114 : decode cX0_nextChange 114 = .ok (.istore_n 2, 1) := by decide +kernel
theorem dX0_nextChange_115 : decode cX0_nextChange 115 = .ok (.iload_n 2, 1) := by decide +kernel
theorem dX0_nextChange_116 : decode cX0_nextChange 116 = .ok (.aload_n 0, 1) := by decide +kernel
theorem dX0_nextChange_117 : decode cX0_nextChange 117 = .ok (.getfield 32, 3) := by decide +kernel
theorem dX0_nextChange_120 : decode cX0_nextChange 120 = .ok (.getfield 139, 3) := by decide +kernel
theorem dX0_nextChange_123 : decode cX0_nextChange 123 = .ok (.iload_n 3, 1) := by decide +kernel
theorem dX0_nextChange_124 : decode cX0_nextChange 124 = .ok (.iaload, 1) := by decide +kernel
theorem dX0_nextChange_125 : decode cX0_nextChange 125 = .ok (.iconst 1, 1) := by decide +kernel
theorem dX0_nextChange_126 : decode cX0_nextChange 126 = .ok (.iadd, 1) := by decide +kernel
theorem dX0_nextChange_127 : decode cX0_nextChange 127 = .ok (.iload_n 1, 1) := by decide +kernel
theorem dX0_nextChange_128 : decode cX0_nextChange 128 = .ok (.invokestatic 133, 3) := by decide +kernel
theorem dX0_nextChange_131 : decode cX0_nextChange 131 = .ok (.istore_n 2, 1) := by decide +kernel
theorem dX0_nextChange_132 : decode cX0_nextChange 132 = .ok (.iinc 3 1, 3) := by decide +kernel
theorem dX0_nextChange_135 : decode cX0_nextChange 135 = .ok (.goto (-46), 3) := by decide +kernel
theorem dX0_nextChange_138 : decode cX0_nextChange 138 = .ok (.iload_n 2, 1) := by decide +kernel
theorem dX0_nextChange_139 : decode cX0_nextChange 139 = .ok (.ireturn, 1) := by decide +kernel
theorem dX0_earlier_0 : decode cX0_earlier 0 = .ok (.iload_n 1, 1) := by decide +kernel
theorem dX0_earlier_1 : decode cX0_earlier 1 = .ok (.iload_n 2, 1) := by decide +kernel
theorem dX0_earlier_2 : decode cX0_earlier 2 = .ok (.if_icmp .le 12, 3) := by decide +kernel
theorem dX0_earlier_5 : decode cX0_earlier 5 = .ok (.iload_n 1, 1) := by decide +kernel
theorem dX0_earlier_6 : decode cX0_earlier 6 = .ok (.iload_n 0, 1) := by decide +kernel
theorem dX0_earlier_7 : decode cX0_earlier 7 = .ok (.if_icmp .ge 7, 3) := by decide +kernel
theorem dX0_earlier_10 : decode cX0_earlier 10 = .ok (.iload_n 1, 1) := by decide +kernel
theorem dX0_earlier_11 : decode cX0_earlier 11 = .ok (.goto 4, 3) := by decide +kernel
theorem dX0_earlier_14 : decode cX0_earlier 14 = .ok (.iload_n 0, 1) := by decide +kernel
theorem dX0_earlier_15 : decode cX0_earlier 15 = .ok (.ireturn, 1) := by decide +kernel
set_option maxRecDepth 20000 in
theorem ggX0_strandedDays_X0_nextChange : GoodIn wsX0_strandedDays wsX0_nextChange := goodIn_r _ [9, 10, 11, 12, 13, 14, 15, 16, 17, 18, 19, 20, 21, 22, 8, 23, 71, 72, 73, 74, 75, 76, 77, 78, 79, 80, 81, 82, 83, 84, 85, 86, 87, 88, 89, 90, 91, 92] (by decide +kernel) (by decide +kernel)
set_option maxRecDepth 20000 in
theorem gX0_strandedDays_X0_nextChange : GoodIn wsX0_strandedDays (wsV RX0 142 RX0 yX0_nextChange wsX0_nextChange) := goodIn_app (goodIn_of _ (by decide +kernel)) ggX0_strandedDays_X0_nextChange
set_option maxRecDepth 20000 in
theorem ggX0_strandedDays_X0_strandedUsers : GoodIn wsX0_strandedDays wsX0_strandedUsers := goodIn_r _ [27, 14, 15, 28, 29, 30, 8, 31, 32, 33, 34, 35, 36, 37, 38, 39, 40, 41, 42, 43, 44, 45, 46, 47, 48, 10, 49, 17, 50, 51, 52, 53, 54, 55, 56, 57, 58, 59, 60, 61, 62, 63, 64, 65, 66, 67, 68, 69, 70, 71, 72, 73, 74, 80, 81, 82, 83, 84, 85, 86, 75, 76, 77, 78, 79, 87, 88, 89, 90, 91, 92] (by decide +kernel) (by decide +kernel)
set_option maxRecDepth 20000 in
theorem gX0_strandedDays_X0_strandedUsers : GoodIn wsX0_strandedDays (wsV RX0 150 RX0 yX0_strandedUsers wsX0_strandedUsers) := goodIn_app (goodIn_of _ (by decide +kernel)) ggX0_strandedDays_X0_strandedUsers
theorem dX0_strandedDays_0 : decode cX0_strandedDays 0 = .ok (.iconst 0, 1) := by decide +kernel
theorem dX0_strandedDays_1 : decode cX0_strandedDays 1 = .ok (.istore_n 1, 1) := by decide +kernel
theorem dX0_strandedDays_2 : decode cX0_strandedDays 2 = .ok (.iconst 0, 1) := by decide +kernel
theorem dX0_strandedDays_3 : decode cX0_strandedDays 3 = .ok (.istore_n 2, 1) := by decide +kernel
theorem dX0_strandedDays_4 : decode cX0_strandedDays 4 = .ok (.iload_n 2, 1) := by decide +kernel
theorem dX0_strandedDays_5 : decode cX0_strandedDays 5 = .ok (.sipush 1000, 3) := by decide +kernel
theorem dX0_strandedDays_8 : decode cX0_strandedDays 8 = .ok (.if_icmp .ge 34, 3) := by decide +kernel
theorem dX0_strandedDays_11 : decode cX0_strandedDays 11 = .ok (.iload_n 2, 1) := by decide +kernel
theorem dX0_strandedDays_12 : decode cX0_strandedDays 12 = .ok (.iconst 1, 1) := by decide +kernel
theorem dX0_strandedDays_13 : decode cX0_strandedDays 13 = .ok (.iadd, 1) := by decide +kernel
theorem dX0_strandedDays_14 : decode cX0_strandedDays 14 = .ok (.aload_n 0, 1) := by decide +kernel
theorem dX0_strandedDays_15 : decode cX0_strandedDays 15 = .ok (.iload_n 2, 1) := by decide +kernel
theorem dX0_strandedDays_16 : decode cX0_strandedDays 16 = .ok (.invokevirtual 142, 3) := by decide +kernel
theorem dX0_strandedDays_19 : decode cX0_strandedDays 19 = .ok (.invokestatic 145, 3) := by decide +kernel
theorem dX0_strandedDays_22 : decode cX0_strandedDays 22 = .ok (.istore_n 3, 1) := by decide +kernel
theorem dX0_strandedDays_23 : decode cX0_strandedDays 23 = .ok (.aload_n 0, 1) := by decide +kernel
theorem dX0_strandedDays_24 : decode cX0_strandedDays 24 = .ok (.iload_n 2, 1) := by decide +kernel
theorem dX0_strandedDays_25 : decode cX0_strandedDays 25 = .ok (.invokevirtual 150, 3) := by decide +kernel
theorem dX0_strandedDays_28 : decode cX0_strandedDays 28 = .ok (.ifCond .eq 9, 3) := by decide +kernel
theorem dX0_strandedDays_31 : decode cX0_strandedDays 31 = .ok (.iload_n 1, 1) := by decide +kernel
theorem dX0_strandedDays_32 : decode cX0_strandedDays 32 = .ok (.iload_n 3, 1) := by decide +kernel
theorem dX0_strandedDays_33 : decode cX0_strandedDays 33 = .ok (.iload_n 2, 1) := by decide +kernel
theorem dX0_strandedDays_34 : decode cX0_strandedDays 34 = .ok (.isub, 1) := by decide +kernel
theorem dX0_strandedDays_35 : decode cX0_strandedDays 35 = .ok (.iadd, 1) := by decide +kernel
theorem dX0_strandedDays_36 : decode cX0_strandedDays 36 = .ok (.istore_n 1, 1) := by decide +kernel
theorem dX0_strandedDays_37 : decode cX0_strandedDays 37 = .ok (.iload_n 3, 1) := by decide +kernel
theorem dX0_strandedDays_38 : decode cX0_strandedDays 38 = .ok (.istore_n 2, 1) := by decide +kernel
theorem dX0_strandedDays_39 : decode cX0_strandedDays 39 = .ok (.goto (-35), 3) := by decide +kernel
theorem dX0_strandedDays_42 : decode cX0_strandedDays 42 = .ok (.iload_n 1, 1) := by decide +kernel
theorem dX0_strandedDays_43 : decode cX0_strandedDays 43 = .ok (.ireturn, 1) := by decide +kernel
set_option maxRecDepth 20000 in
theorem ggX0_costOfAll_X0_nextChange : GoodIn wsX0_costOfAll wsX0_nextChange := goodIn_r _ [12, 13, 14, 15, 16, 17, 18, 19, 20, 21, 22, 23, 24, 25, 11, 26, 75, 76, 77, 78, 79, 80, 81, 82, 83, 84, 85, 86, 87, 88, 89, 90, 91, 92, 93, 94, 95, 96] (by decide +kernel) (by decide +kernel)
set_option maxRecDepth 20000 in
theorem gX0_costOfAll_X0_nextChange : GoodIn wsX0_costOfAll (wsV RX0 142 RX0 yX0_nextChange wsX0_nextChange) := goodIn_app (goodIn_of _ (by decide +kernel)) ggX0_costOfAll_X0_nextChange
set_option maxRecDepth 20000 in
theorem ggX0_costOfAll_X0_costOfAllOn : GoodIn wsX0_costOfAll wsX0_costOfAllOn := goodIn_r _ [30, 17, 18, 31, 32, 33, 34, 35, 36, 37, 38, 39, 40, 41, 42, 43, 44, 45, 46, 11, 47, 13, 48, 49, 20, 50, 51, 52, 53, 54, 55, 56, 57, 58, 59, 60, 61, 62, 63, 64, 65, 66, 67, 68, 69, 70, 71, 72, 73, 74, 75, 76, 77, 78, 84, 85, 86, 87, 88, 89, 90, 79, 80, 81, 82, 83, 91, 92, 93, 94, 95, 96] (by decide +kernel) (by decide +kernel)
set_option maxRecDepth 20000 in
theorem gX0_costOfAll_X0_costOfAllOn : GoodIn wsX0_costOfAll (wsV RX0 156 RX0 yX0_costOfAllOn wsX0_costOfAllOn) := goodIn_app (goodIn_of _ (by decide +kernel)) ggX0_costOfAll_X0_costOfAllOn
theorem dX0_costOfAll_0 : decode cX0_costOfAll 0 = .ok (.iconst 0, 1) := by decide +kernel
theorem dX0_costOfAll_1 : decode cX0_costOfAll 1 = .ok (.istore_n 3, 1) := by decide +kernel
theorem dX0_costOfAll_2 : decode cX0_costOfAll 2 = .ok (.iload_n 1, 1) := by decide +kernel
theorem dX0_costOfAll_3 : decode cX0_costOfAll 3 = .ok (.istore 4, 2) := by decide +kernel
theorem dX0_costOfAll_5 : decode cX0_costOfAll 5 = .ok (.iload 4, 2) := by decide +kernel
theorem dX0_costOfAll_7 : decode cX0_costOfAll 7 = .ok (.iload_n 2, 1) := by decide +kernel
theorem dX0_costOfAll_8 : decode cX0_costOfAll 8 = .ok (.if_icmp .gt 46, 3) := by decide +kernel
theorem dX0_costOfAll_11 : decode cX0_costOfAll 11 = .ok (.iload 4, 2) := by decide +kernel
theorem dX0_costOfAll_13 : decode cX0_costOfAll 13 = .ok (.iconst 1, 1) := by decide +kernel
theorem dX0_costOfAll_14 : decode cX0_costOfAll 14 = .ok (.iadd, 1) := by decide +kernel
theorem dX0_costOfAll_15 : decode cX0_costOfAll 15 = .ok (.iload_n 2, 1) := by decide +kernel
theorem dX0_costOfAll_16 : decode cX0_costOfAll 16 = .ok (.iconst 1, 1) := by decide +kernel
theorem dX0_costOfAll_17 : decode cX0_costOfAll 17 = .ok (.iadd, 1) := by decide +kernel
theorem dX0_costOfAll_18 : decode cX0_costOfAll 18 = .ok (.aload_n 0, 1) := by decide +kernel
theorem dX0_costOfAll_19 : decode cX0_costOfAll 19 = .ok (.iload 4, 2) := by decide +kernel
theorem dX0_costOfAll_21 : decode cX0_costOfAll 21 = .ok (.invokevirtual 142, 3) := by decide +kernel
theorem dX0_costOfAll_24 : decode cX0_costOfAll 24 = .ok (.invokestatic 153, 3) := by decide +kernel
theorem dX0_costOfAll_27 : decode cX0_costOfAll 27 = .ok (.invokestatic 145, 3) := by decide +kernel
theorem dX0_costOfAll_30 : decode cX0_costOfAll 30 = .ok (.istore 5, 2) := by decide +kernel
theorem dX0_costOfAll_32 : decode cX0_costOfAll 32 = .ok (.iload_n 3, 1) := by decide +kernel
theorem dX0_costOfAll_33 : decode cX0_costOfAll 33 = .ok (.iload 5, 2) := by decide +kernel
theorem dX0_costOfAll_35 : decode cX0_costOfAll 35 = .ok (.iload 4, 2) := by decide +kernel
theorem dX0_costOfAll_37 : decode cX0_costOfAll 37 = .ok (.isub, 1) := by decide +kernel
theorem dX0_costOfAll_38 : decode cX0_costOfAll 38 = .ok (.aload_n 0, 1) := by decide +kernel
theorem dX0_costOfAll_39 : decode cX0_costOfAll 39 = .ok (.iload 4, 2) := by decide +kernel
theorem dX0_costOfAll_41 : decode cX0_costOfAll 41 = .ok (.invokevirtual 156, 3) := by decide +kernel
theorem dX0_costOfAll_44 : decode cX0_costOfAll 44 = .ok (.imul, 1) := by decide +kernel
theorem dX0_costOfAll_45 : decode cX0_costOfAll 45 = .ok (.iadd, 1) := by decide +kernel
theorem dX0_costOfAll_46 : decode cX0_costOfAll 46 = .ok (.istore_n 3, 1) := by decide +kernel
theorem dX0_costOfAll_47 : decode cX0_costOfAll 47 = .ok (.iload 5, 2) := by decide +kernel
theorem dX0_costOfAll_49 : decode cX0_costOfAll 49 = .ok (.istore 4, 2) := by decide +kernel
theorem dX0_costOfAll_51 : decode cX0_costOfAll 51 = .ok (.goto (-46), 3) := by decide +kernel
theorem dX0_costOfAll_54 : decode cX0_costOfAll 54 = .ok (.iload_n 3, 1) := by decide +kernel
theorem dX0_costOfAll_55 : decode cX0_costOfAll 55 = .ok (.ireturn, 1) := by decide +kernel
set_option maxRecDepth 20000 in
theorem ggX0_costOfOne_X0_nextChange : GoodIn wsX0_costOfOne wsX0_nextChange := goodIn_r _ [12, 13, 14, 15, 16, 17, 18, 19, 20, 21, 22, 23, 24, 25, 11, 26, 58, 59, 60, 61, 62, 63, 64, 65, 66, 67, 68, 69, 70, 71, 72, 73, 74, 75, 76, 77, 78, 79] (by decide +kernel) (by decide +kernel)
set_option maxRecDepth 20000 in
theorem gX0_costOfOne_X0_nextChange : GoodIn wsX0_costOfOne (wsV RX0 142 RX0 yX0_nextChange wsX0_nextChange) := goodIn_app (goodIn_of _ (by decide +kernel)) ggX0_costOfOne_X0_nextChange
set_option maxRecDepth 20000 in
theorem ggX0_costOfOne_X0_costOn : GoodIn wsX0_costOfOne wsX0_costOn := goodIn_r _ [30, 13, 31, 32, 20, 33, 34, 35, 36, 37, 38, 39, 40, 41, 42, 43, 44, 45, 46, 47, 48, 49, 50, 51, 52, 53, 54, 55, 56, 57, 58, 59, 60, 61, 62, 63, 64, 65, 66, 74, 75, 76, 77, 78, 79] (by decide +kernel) (by decide +kernel)
set_option maxRecDepth 20000 in
theorem gX0_costOfOne_X0_costOn : GoodIn wsX0_costOfOne (wsV RX0 127 RX0 yX0_costOn wsX0_costOn) := goodIn_app (goodIn_of _ (by decide +kernel)) ggX0_costOfOne_X0_costOn
theorem dX0_costOfOne_0 : decode cX0_costOfOne 0 = .ok (.iconst 0, 1) := by decide +kernel
theorem dX0_costOfOne_1 : decode cX0_costOfOne 1 = .ok (.istore 5, 2) := by decide +kernel
theorem dX0_costOfOne_3 : decode cX0_costOfOne 3 = .ok (.iload_n 3, 1) := by decide +kernel
theorem dX0_costOfOne_4 : decode cX0_costOfOne 4 = .ok (.istore 6, 2) := by decide +kernel
theorem dX0_costOfOne_6 : decode cX0_costOfOne 6 = .ok (.iload 6, 2) := by decide +kernel
theorem dX0_costOfOne_8 : decode cX0_costOfOne 8 = .ok (.iload 4, 2) := by decide +kernel
theorem dX0_costOfOne_10 : decode cX0_costOfOne 10 = .ok (.if_icmp .gt 51, 3) := by decide +kernel
theorem dX0_costOfOne_13 : decode cX0_costOfOne 13 = .ok (.iload 6, 2) := by decide +kernel
theorem dX0_costOfOne_15 : decode cX0_costOfOne 15 = .ok (.iconst 1, 1) := by decide +kernel
theorem dX0_costOfOne_16 : decode cX0_costOfOne 16 = .ok (.iadd, 1) := by decide +kernel
theorem dX0_costOfOne_17 : decode cX0_costOfOne 17 = .ok (.iload 4, 2) := by decide +kernel
theorem dX0_costOfOne_19 : decode cX0_costOfOne 19 = .ok (.iconst 1, 1) := by decide +kernel
theorem dX0_costOfOne_20 : decode cX0_costOfOne 20 = .ok (.iadd, 1) := by decide +kernel
theorem dX0_costOfOne_21 : decode cX0_costOfOne 21 = .ok (.aload_n 0, 1) := by decide +kernel
theorem dX0_costOfOne_22 : decode cX0_costOfOne 22 = .ok (.iload 6, 2) := by decide +kernel
theorem dX0_costOfOne_24 : decode cX0_costOfOne 24 = .ok (.invokevirtual 142, 3) := by decide +kernel
theorem dX0_costOfOne_27 : decode cX0_costOfOne 27 = .ok (.invokestatic 153, 3) := by decide +kernel
theorem dX0_costOfOne_30 : decode cX0_costOfOne 30 = .ok (.invokestatic 145, 3) := by decide +kernel
theorem dX0_costOfOne_33 : decode cX0_costOfOne 33 = .ok (.istore 7, 2) := by decide +kernel
theorem dX0_costOfOne_35 : decode cX0_costOfOne 35 = .ok (.iload 5, 2) := by decide +kernel
theorem dX0_costOfOne_37 : decode cX0_costOfOne 37 = .ok (.iload 7, 2) := by decide +kernel
theorem dX0_costOfOne_39 : decode cX0_costOfOne 39 = .ok (.iload 6, 2) := by decide +kernel
theorem dX0_costOfOne_41 : decode cX0_costOfOne 41 = .ok (.isub, 1) := by decide +kernel
theorem dX0_costOfOne_42 : decode cX0_costOfOne 42 = .ok (.aload_n 0, 1) := by decide +kernel
theorem dX0_costOfOne_43 : decode cX0_costOfOne 43 = .ok (.iload_n 1, 1) := by decide +kernel
theorem dX0_costOfOne_44 : decode cX0_costOfOne 44 = .ok (.iload_n 2, 1) := by decide +kernel
theorem dX0_costOfOne_45 : decode cX0_costOfOne 45 = .ok (.iload 6, 2) := by decide +kernel
theorem dX0_costOfOne_47 : decode cX0_costOfOne 47 = .ok (.invokevirtual 127, 3) := by decide +kernel
theorem dX0_costOfOne_50 : decode cX0_costOfOne 50 = .ok (.imul, 1) := by decide +kernel
theorem dX0_costOfOne_51 : decode cX0_costOfOne 51 = .ok (.iadd, 1) := by decide +kernel
theorem dX0_costOfOne_52 : decode cX0_costOfOne 52 = .ok (.istore 5, 2) := by decide +kernel
theorem dX0_costOfOne_54 : decode cX0_costOfOne 54 = .ok (.iload 7, 2) := by decide +kernel
theorem dX0_costOfOne_56 : decode cX0_costOfOne 56 = .ok (.istore 6, 2) := by decide +kernel
theorem dX0_costOfOne_58 : decode cX0_costOfOne 58 = .ok (.goto (-52), 3) := by decide +kernel
theorem dX0_costOfOne_61 : decode cX0_costOfOne 61 = .ok (.iload 5, 2) := by decide +kernel
theorem dX0_costOfOne_63 : decode cX0_costOfOne 63 = .ok (.ireturn, 1) := by decide +kernel
set_option maxRecDepth 20000 in
theorem ggX0_firstDayStranded_X0_unservedUses : GoodIn wsX0_firstDayStranded wsX0_unservedUses := goodIn_r _ [9, 10, 11, 12, 13, 14, 15, 16, 17, 18, 19, 20, 21, 22, 23, 24, 25, 26, 8, 27, 28, 29, 30, 31, 32, 33, 34, 35, 36, 37, 38, 39, 40, 41, 42, 43, 44, 45, 46, 47, 48, 49, 50, 51, 67, 68, 69, 70, 71, 72, 73, 74, 75, 76, 77, 78, 79, 80, 81, 82, 83, 84, 85, 86, 87, 88] (by decide +kernel) (by decide +kernel)
set_option maxRecDepth 20000 in
theorem gX0_firstDayStranded_X0_unservedUses : GoodIn wsX0_firstDayStranded (wsV RX0 116 RX0 yX0_unservedUses wsX0_unservedUses) := goodIn_app (goodIn_of _ (by decide +kernel)) ggX0_firstDayStranded_X0_unservedUses
set_option maxRecDepth 20000 in
theorem ggX0_firstDayStranded_X0_nextChange : GoodIn wsX0_firstDayStranded wsX0_nextChange := goodIn_r _ [55, 28, 56, 57, 58, 10, 59, 60, 30, 61, 62, 63, 64, 65, 8, 66, 67, 68, 69, 70, 78, 79, 80, 81, 82, 71, 72, 73, 74, 75, 76, 77, 83, 84, 85, 86, 87, 88] (by decide +kernel) (by decide +kernel)
set_option maxRecDepth 20000 in
theorem gX0_firstDayStranded_X0_nextChange : GoodIn wsX0_firstDayStranded (wsV RX0 142 RX0 yX0_nextChange wsX0_nextChange) := goodIn_app (goodIn_of _ (by decide +kernel)) ggX0_firstDayStranded_X0_nextChange
theorem dX0_firstDayStranded_0 : decode cX0_firstDayStranded 0 = .ok (.iload_n 2, 1) := by decide +kernel
theorem dX0_firstDayStranded_1 : decode cX0_firstDayStranded 1 = .ok (.istore_n 3, 1) := by decide +kernel
theorem dX0_firstDayStranded_2 : decode cX0_firstDayStranded 2 = .ok (.iload_n 3, 1) := by decide +kernel
theorem dX0_firstDayStranded_3 : decode cX0_firstDayStranded 3 = .ok (.sipush 1000, 3) := by decide +kernel
theorem dX0_firstDayStranded_6 : decode cX0_firstDayStranded 6 = .ok (.if_icmp .ge 29, 3) := by decide +kernel
theorem dX0_firstDayStranded_9 : decode cX0_firstDayStranded 9 = .ok (.aload_n 0, 1) := by decide +kernel
theorem dX0_firstDayStranded_10 : decode cX0_firstDayStranded 10 = .ok (.iload_n 1, 1) := by decide +kernel
theorem dX0_firstDayStranded_11 : decode cX0_firstDayStranded 11 = .ok (.iload_n 3, 1) := by decide +kernel
theorem dX0_firstDayStranded_12 : decode cX0_firstDayStranded 12 = .ok (.invokevirtual 116, 3) := by decide +kernel
theorem dX0_firstDayStranded_15 : decode cX0_firstDayStranded 15 = .ok (.ifCond .eq 5, 3) := by decide +kernel
theorem dX0_firstDayStranded_18 : decode cX0_firstDayStranded 18 = .ok (.iload_n 3, 1) := by decide +kernel
theorem dX0_firstDayStranded_19 : decode cX0_firstDayStranded 19 = .ok (.ireturn, 1) := by decide +kernel
theorem dX0_firstDayStranded_20 : decode cX0_firstDayStranded 20 = .ok (.iload_n 3, 1) := by decide +kernel
theorem dX0_firstDayStranded_21 : decode cX0_firstDayStranded 21 = .ok (.iconst 1, 1) := by decide +kernel
theorem dX0_firstDayStranded_22 : decode cX0_firstDayStranded 22 = .ok (.iadd, 1) := by decide +kernel
theorem dX0_firstDayStranded_23 : decode cX0_firstDayStranded 23 = .ok (.aload_n 0, 1) := by decide +kernel
theorem dX0_firstDayStranded_24 : decode cX0_firstDayStranded 24 = .ok (.iload_n 3, 1) := by decide +kernel
theorem dX0_firstDayStranded_25 : decode cX0_firstDayStranded 25 = .ok (.invokevirtual 142, 3) := by decide +kernel
theorem dX0_firstDayStranded_28 : decode cX0_firstDayStranded 28 = .ok (.invokestatic 145, 3) := by decide +kernel
theorem dX0_firstDayStranded_31 : decode cX0_firstDayStranded 31 = .ok (.istore_n 3, 1) := by decide +kernel
theorem dX0_firstDayStranded_32 : decode cX0_firstDayStranded 32 = .ok (.goto (-30), 3) := by decide +kernel
theorem dX0_firstDayStranded_35 : decode cX0_firstDayStranded 35 = .ok (.iconst (-1), 1) := by decide +kernel
theorem dX0_firstDayStranded_36 : decode cX0_firstDayStranded 36 = .ok (.ireturn, 1) := by decide +kernel
set_option maxRecDepth 20000 in
theorem ggX0_firstDayUnserved_X0_unserved : GoodIn wsX0_firstDayUnserved wsX0_unserved := goodIn_r _ [9, 10, 11, 12, 13, 14, 15, 16, 17, 18, 19, 20, 21, 22, 23, 24, 25, 26, 27, 28, 29, 30, 31, 32, 33, 50, 51, 52, 53, 54, 55, 56, 57, 58, 59, 60, 61, 62, 63, 64] (by decide +kernel) (by decide +kernel)
set_option maxRecDepth 20000 in
theorem gX0_firstDayUnserved_X0_unserved : GoodIn wsX0_firstDayUnserved (wsV RX0 112 RX0 yX0_unserved wsX0_unserved) := goodIn_app (goodIn_of _ (by decide +kernel)) ggX0_firstDayUnserved_X0_unserved
set_option maxRecDepth 20000 in
theorem ggX0_firstDayUnserved_X0_nextChange : GoodIn wsX0_firstDayUnserved wsX0_nextChange := goodIn_r _ [37, 10, 38, 39, 40, 41, 42, 43, 12, 44, 45, 46, 47, 48, 8, 49, 50, 51, 52, 53, 54, 55, 56, 57, 58, 65, 66, 67, 68, 69, 70, 71, 59, 60, 61, 62, 63, 64] (by decide +kernel) (by decide +kernel)
set_option maxRecDepth 20000 in
theorem gX0_firstDayUnserved_X0_nextChange : GoodIn wsX0_firstDayUnserved (wsV RX0 142 RX0 yX0_nextChange wsX0_nextChange) := goodIn_app (goodIn_of _ (by decide +kernel)) ggX0_firstDayUnserved_X0_nextChange
theorem dX0_firstDayUnserved_0 : decode cX0_firstDayUnserved 0 = .ok (.iload_n 3, 1) := by decide +kernel
theorem dX0_firstDayUnserved_1 : decode cX0_firstDayUnserved 1 = .ok (.istore 5, 2) := by decide +kernel
theorem dX0_firstDayUnserved_3 : decode cX0_firstDayUnserved 3 = .ok (.iload 5, 2) := by decide +kernel
theorem dX0_firstDayUnserved_5 : decode cX0_firstDayUnserved 5 = .ok (.iload 4, 2) := by decide +kernel
theorem dX0_firstDayUnserved_7 : decode cX0_firstDayUnserved 7 = .ok (.if_icmp .gt 35, 3) := by decide +kernel
theorem dX0_firstDayUnserved_10 : decode cX0_firstDayUnserved 10 = .ok (.aload_n 0, 1) := by decide +kernel
theorem dX0_firstDayUnserved_11 : decode cX0_firstDayUnserved 11 = .ok (.iload_n 1, 1) := by decide +kernel
theorem dX0_firstDayUnserved_12 : decode cX0_firstDayUnserved 12 = .ok (.iload_n 2, 1) := by decide +kernel
theorem dX0_firstDayUnserved_13 : decode cX0_firstDayUnserved 13 = .ok (.iload 5, 2) := by decide +kernel
theorem dX0_firstDayUnserved_15 : decode cX0_firstDayUnserved 15 = .ok (.invokevirtual 112, 3) := by decide +kernel
theorem dX0_firstDayUnserved_18 : decode cX0_firstDayUnserved 18 = .ok (.ifCond .eq 6, 3) := by decide +kernel
theorem dX0_firstDayUnserved_21 : decode cX0_firstDayUnserved 21 = .ok (.iload 5, 2) := by decide +kernel
theorem dX0_firstDayUnserved_23 : decode cX0_firstDayUnserved 23 = .ok (.ireturn, 1) := by decide +kernel
theorem dX0_firstDayUnserved_24 : decode cX0_firstDayUnserved 24 = .ok (.iload 5, 2) := by decide +kernel
theorem dX0_firstDayUnserved_26 : decode cX0_firstDayUnserved 26 = .ok (.iconst 1, 1) := by decide +kernel
theorem dX0_firstDayUnserved_27 : decode cX0_firstDayUnserved 27 = .ok (.iadd, 1) := by decide +kernel
theorem dX0_firstDayUnserved_28 : decode cX0_firstDayUnserved 28 = .ok (.aload_n 0, 1) := by decide +kernel
theorem dX0_firstDayUnserved_29 : decode cX0_firstDayUnserved 29 = .ok (.iload 5, 2) := by decide +kernel
theorem dX0_firstDayUnserved_31 : decode cX0_firstDayUnserved 31 = .ok (.invokevirtual 142, 3) := by decide +kernel
theorem dX0_firstDayUnserved_34 : decode cX0_firstDayUnserved 34 = .ok (.invokestatic 145, 3) := by decide +kernel
theorem dX0_firstDayUnserved_37 : decode cX0_firstDayUnserved 37 = .ok (.istore 5, 2) := by decide +kernel
theorem dX0_firstDayUnserved_39 : decode cX0_firstDayUnserved 39 = .ok (.goto (-36), 3) := by decide +kernel
theorem dX0_firstDayUnserved_42 : decode cX0_firstDayUnserved 42 = .ok (.iconst (-1), 1) := by decide +kernel
theorem dX0_firstDayUnserved_43 : decode cX0_firstDayUnserved 43 = .ok (.ireturn, 1) := by decide +kernel
set_option maxRecDepth 20000 in
theorem ggX0_servedFrom_X0_nextChange : GoodIn wsX0_servedFrom wsX0_nextChange := goodIn_r _ [9, 10, 11, 12, 13, 14, 15, 16, 17, 18, 19, 20, 21, 22, 8, 23, 50, 51, 52, 53, 54, 55, 56, 57, 58, 59, 60, 61, 62, 63, 64, 65, 66, 67, 68, 69, 70, 71] (by decide +kernel) (by decide +kernel)
set_option maxRecDepth 20000 in
theorem gX0_servedFrom_X0_nextChange : GoodIn wsX0_servedFrom (wsV RX0 142 RX0 yX0_nextChange wsX0_nextChange) := goodIn_app (goodIn_of _ (by decide +kernel)) ggX0_servedFrom_X0_nextChange
set_option maxRecDepth 20000 in
theorem ggX0_servedFrom_X0_unserved : GoodIn wsX0_servedFrom wsX0_unserved := goodIn_r _ [27, 10, 28, 17, 29, 30, 31, 32, 33, 34, 35, 36, 37, 38, 39, 40, 41, 42, 43, 44, 45, 46, 47, 48, 49, 50, 51, 52, 53, 54, 55, 56, 57, 58, 66, 67, 68, 69, 70, 71] (by decide +kernel) (by decide +kernel)
set_option maxRecDepth 20000 in
theorem gX0_servedFrom_X0_unserved : GoodIn wsX0_servedFrom (wsV RX0 112 RX0 yX0_unserved wsX0_unserved) := goodIn_app (goodIn_of _ (by decide +kernel)) ggX0_servedFrom_X0_unserved
theorem dX0_servedFrom_0 : decode cX0_servedFrom 0 = .ok (.iload_n 3, 1) := by decide +kernel
theorem dX0_servedFrom_1 : decode cX0_servedFrom 1 = .ok (.istore 4, 2) := by decide +kernel
theorem dX0_servedFrom_3 : decode cX0_servedFrom 3 = .ok (.iload_n 3, 1) := by decide +kernel
theorem dX0_servedFrom_4 : decode cX0_servedFrom 4 = .ok (.istore 5, 2) := by decide +kernel
theorem dX0_servedFrom_6 : decode cX0_servedFrom 6 = .ok (.iload 5, 2) := by decide +kernel
theorem dX0_servedFrom_8 : decode cX0_servedFrom 8 = .ok (.sipush 1000, 3) := by decide +kernel
theorem dX0_servedFrom_11 : decode cX0_servedFrom 11 = .ok (.if_icmp .ge 40, 3) := by decide +kernel
theorem dX0_servedFrom_14 : decode cX0_servedFrom 14 = .ok (.iload 5, 2) := by decide +kernel
theorem dX0_servedFrom_16 : decode cX0_servedFrom 16 = .ok (.iconst 1, 1) := by decide +kernel
theorem dX0_servedFrom_17 : decode cX0_servedFrom 17 = .ok (.iadd, 1) := by decide +kernel
theorem dX0_servedFrom_18 : decode cX0_servedFrom 18 = .ok (.aload_n 0, 1) := by decide +kernel
theorem dX0_servedFrom_19 : decode cX0_servedFrom 19 = .ok (.iload 5, 2) := by decide +kernel
theorem dX0_servedFrom_21 : decode cX0_servedFrom 21 = .ok (.invokevirtual 142, 3) := by decide +kernel
theorem dX0_servedFrom_24 : decode cX0_servedFrom 24 = .ok (.invokestatic 145, 3) := by decide +kernel
theorem dX0_servedFrom_27 : decode cX0_servedFrom 27 = .ok (.istore 6, 2) := by decide +kernel
theorem dX0_servedFrom_29 : decode cX0_servedFrom 29 = .ok (.aload_n 0, 1) := by decide +kernel
theorem dX0_servedFrom_30 : decode cX0_servedFrom 30 = .ok (.iload_n 1, 1) := by decide +kernel
theorem dX0_servedFrom_31 : decode cX0_servedFrom 31 = .ok (.iload_n 2, 1) := by decide +kernel
theorem dX0_servedFrom_32 : decode cX0_servedFrom 32 = .ok (.iload 5, 2) := by decide +kernel
theorem dX0_servedFrom_34 : decode cX0_servedFrom 34 = .ok (.invokevirtual 112, 3) := by decide +kernel
theorem dX0_servedFrom_37 : decode cX0_servedFrom 37 = .ok (.ifCond .eq 7, 3) := by decide +kernel
theorem dX0_servedFrom_40 : decode cX0_servedFrom 40 = .ok (.iload 6, 2) := by decide +kernel
theorem dX0_servedFrom_42 : decode cX0_servedFrom 42 = .ok (.istore 4, 2) := by decide +kernel
theorem dX0_servedFrom_44 : decode cX0_servedFrom 44 = .ok (.iload 6, 2) := by decide +kernel
theorem dX0_servedFrom_46 : decode cX0_servedFrom 46 = .ok (.istore 5, 2) := by decide +kernel
theorem dX0_servedFrom_48 : decode cX0_servedFrom 48 = .ok (.goto (-42), 3) := by decide +kernel
theorem dX0_servedFrom_51 : decode cX0_servedFrom 51 = .ok (.iload 4, 2) := by decide +kernel
theorem dX0_servedFrom_53 : decode cX0_servedFrom 53 = .ok (.ireturn, 1) := by decide +kernel
set_option maxRecDepth 20000 in
theorem ggX0_latestPledge_X0_firstDayUnserved : GoodIn wsX0_latestPledge wsX0_firstDayUnserved := goodIn_r _ [8, 9, 10, 11, 12, 13, 14, 15, 7, 16, 17, 18, 19, 20, 21, 22, 23, 24, 25, 26, 27, 28, 29, 30, 31, 32, 33, 34, 35, 36, 37, 38, 39, 40, 41, 42, 43, 44, 45, 46, 47, 1, 48, 49, 50, 51, 52, 53, 54, 55, 60, 61, 62, 63, 71, 72, 73, 74, 75, 76, 77, 78, 79, 80, 81, 64, 65, 66, 67, 68, 69, 70] (by decide +kernel) (by decide +kernel)
set_option maxRecDepth 20000 in
theorem gX0_latestPledge_X0_firstDayUnserved : GoodIn wsX0_latestPledge (wsV RX0 160 RX0 yX0_firstDayUnserved wsX0_firstDayUnserved) := goodIn_app (goodIn_of _ (by decide +kernel)) ggX0_latestPledge_X0_firstDayUnserved
set_option maxRecDepth 20000 in
theorem ggX0_latestPledge_X0_servedFrom : GoodIn wsX0_latestPledge wsX0_servedFrom := goodIn_r _ [59, 9, 10, 11, 12, 41, 42, 43, 7, 44, 17, 45, 46, 47, 1, 48, 49, 19, 50, 51, 52, 53, 54, 55, 13, 14, 15, 16, 18, 20, 21, 22, 23, 24, 25, 26, 27, 28, 29, 30, 31, 32, 33, 34, 35, 36, 37, 38, 39, 40, 60, 61, 62, 63, 71, 72, 73, 74, 75, 64, 65, 66, 67, 68, 69, 70, 76, 77, 78, 79, 80, 81] (by decide +kernel) (by decide +kernel)
set_option maxRecDepth 20000 in
theorem gX0_latestPledge_X0_servedFrom : GoodIn wsX0_latestPledge (wsV RX0 164 RX0 yX0_servedFrom wsX0_servedFrom) := goodIn_app (goodIn_of _ (by decide +kernel)) ggX0_latestPledge_X0_servedFrom
theorem dX0_latestPledge_0 : decode cX0_latestPledge 0 = .ok (.aload_n 0, 1) := by decide +kernel
theorem dX0_latestPledge_1 : decode cX0_latestPledge 1 = .ok (.getfield 25, 3) := by decide +kernel
theorem dX0_latestPledge_4 : decode cX0_latestPledge 4 = .ok (.getfield 99, 3) := by decide +kernel
theorem dX0_latestPledge_7 : decode cX0_latestPledge 7 = .ok (.iload_n 1, 1) := by decide +kernel
theorem dX0_latestPledge_8 : decode cX0_latestPledge 8 = .ok (.iaload, 1) := by decide +kernel
theorem dX0_latestPledge_9 : decode cX0_latestPledge 9 = .ok (.istore 4, 2) := by decide +kernel
theorem dX0_latestPledge_11 : decode cX0_latestPledge 11 = .ok (.aload_n 0, 1) := by decide +kernel
theorem dX0_latestPledge_12 : decode cX0_latestPledge 12 = .ok (.iload 4, 2) := by decide +kernel
theorem dX0_latestPledge_14 : decode cX0_latestPledge 14 = .ok (.aload_n 0, 1) := by decide +kernel
theorem dX0_latestPledge_15 : decode cX0_latestPledge 15 = .ok (.getfield 25, 3) := by decide +kernel
theorem dX0_latestPledge_18 : decode cX0_latestPledge 18 = .ok (.getfield 159, 3) := by decide +kernel
theorem dX0_latestPledge_21 : decode cX0_latestPledge 21 = .ok (.iload_n 1, 1) := by decide +kernel
theorem dX0_latestPledge_22 : decode cX0_latestPledge 22 = .ok (.iaload, 1) := by decide +kernel
theorem dX0_latestPledge_23 : decode cX0_latestPledge 23 = .ok (.iload_n 3, 1) := by decide +kernel
theorem dX0_latestPledge_24 : decode cX0_latestPledge 24 = .ok (.sipush 999, 3) := by decide +kernel
theorem dX0_latestPledge_27 : decode cX0_latestPledge 27 = .ok (.invokevirtual 160, 3) := by decide +kernel
theorem dX0_latestPledge_30 : decode cX0_latestPledge 30 = .ok (.istore 5, 2) := by decide +kernel
theorem dX0_latestPledge_32 : decode cX0_latestPledge 32 = .ok (.iload 5, 2) := by decide +kernel
theorem dX0_latestPledge_34 : decode cX0_latestPledge 34 = .ok (.iconst (-1), 1) := by decide +kernel
theorem dX0_latestPledge_35 : decode cX0_latestPledge 35 = .ok (.if_icmp .ne 9, 3) := by decide +kernel
theorem dX0_latestPledge_38 : decode cX0_latestPledge 38 = .ok (.sipush 999, 3) := by decide +kernel
theorem dX0_latestPledge_41 : decode cX0_latestPledge 41 = .ok (.goto 5, 3) := by decide +kernel
theorem dX0_latestPledge_44 : decode cX0_latestPledge 44 = .ok (.iload 5, 2) := by decide +kernel
theorem dX0_latestPledge_46 : decode cX0_latestPledge 46 = .ok (.istore 6, 2) := by decide +kernel
theorem dX0_latestPledge_48 : decode cX0_latestPledge 48 = .ok (.iload 6, 2) := by decide +kernel
theorem dX0_latestPledge_50 : decode cX0_latestPledge 50 = .ok (.aload_n 0, 1) := by decide +kernel
theorem dX0_latestPledge_51 : decode cX0_latestPledge 51 = .ok (.iload 4, 2) := by decide +kernel
theorem dX0_latestPledge_53 : decode cX0_latestPledge 53 = .ok (.iload_n 2, 1) := by decide +kernel
theorem dX0_latestPledge_54 : decode cX0_latestPledge 54 = .ok (.iload_n 3, 1) := by decide +kernel
theorem dX0_latestPledge_55 : decode cX0_latestPledge 55 = .ok (.invokevirtual 164, 3) := by decide +kernel
theorem dX0_latestPledge_58 : decode cX0_latestPledge 58 = .ok (.if_icmp .lt 8, 3) := by decide +kernel
theorem dX0_latestPledge_61 : decode cX0_latestPledge 61 = .ok (.iload 6, 2) := by decide +kernel
theorem dX0_latestPledge_63 : decode cX0_latestPledge 63 = .ok (.goto 4, 3) := by decide +kernel
theorem dX0_latestPledge_66 : decode cX0_latestPledge 66 = .ok (.iconst (-1), 1) := by decide +kernel
theorem dX0_latestPledge_67 : decode cX0_latestPledge 67 = .ok (.ireturn, 1) := by decide +kernel
set_option maxRecDepth 20000 in
theorem ggX0_versionCostingLeast_X0_firstDayUnserved : GoodIn wsX0_versionCostingLeast wsX0_firstDayUnserved := goodIn_r _ [7, 8, 9, 10, 11, 12, 13, 14, 6, 15, 1, 16, 17, 18, 19, 20, 21, 22, 23, 24, 25, 26, 27, 28, 29, 30, 31, 32, 33, 34, 35, 36, 37, 38, 39, 40, 41, 42, 2, 43, 44, 45, 46, 47, 48, 49, 50, 51, 52, 53, 74, 75, 76, 77, 78, 79, 80, 81, 82, 83, 84, 85, 86, 87, 88, 89, 90, 91, 92, 93, 94, 95] (by decide +kernel) (by decide +kernel)
set_option maxRecDepth 20000 in
theorem gX0_versionCostingLeast_X0_firstDayUnserved : GoodIn wsX0_versionCostingLeast (wsV RX0 160 RX0 yX0_firstDayUnserved wsX0_firstDayUnserved) := goodIn_app (goodIn_of _ (by decide +kernel)) ggX0_versionCostingLeast_X0_firstDayUnserved
set_option maxRecDepth 20000 in
theorem ggX0_versionCostingLeast_X0_costOfOne : GoodIn wsX0_versionCostingLeast wsX0_costOfOne := goodIn_r _ [57, 58, 59, 10, 60, 8, 9, 11, 39, 40, 41, 6, 42, 1, 2, 43, 44, 45, 46, 47, 17, 48, 49, 50, 51, 52, 53, 61, 62, 63, 64, 16, 65, 18, 19, 20, 21, 22, 23, 24, 66, 67, 68, 69, 70, 71, 28, 72, 30, 31, 73, 32, 33, 34, 35, 36, 37, 38, 74, 75, 76, 77, 78, 79, 80, 81, 82, 89, 90, 91, 92, 93, 94, 95, 83, 84, 85, 86, 87, 88] (by decide +kernel) (by decide +kernel)
set_option maxRecDepth 20000 in
theorem gX0_versionCostingLeast_X0_costOfOne : GoodIn wsX0_versionCostingLeast (wsV RX0 167 RX0 yX0_costOfOne wsX0_costOfOne) := goodIn_app (goodIn_of _ (by decide +kernel)) ggX0_versionCostingLeast_X0_costOfOne
theorem dX0_versionCostingLeast_0 : decode cX0_versionCostingLeast 0 = .ok (.iconst (-1), 1) := by decide +kernel
theorem dX0_versionCostingLeast_1 : decode cX0_versionCostingLeast 1 = .ok (.istore 4, 2) := by decide +kernel
theorem dX0_versionCostingLeast_3 : decode cX0_versionCostingLeast 3 = .ok (.iconst 0, 1) := by decide +kernel
theorem dX0_versionCostingLeast_4 : decode cX0_versionCostingLeast 4 = .ok (.istore 5, 2) := by decide +kernel
theorem dX0_versionCostingLeast_6 : decode cX0_versionCostingLeast 6 = .ok (.iconst 0, 1) := by decide +kernel
theorem dX0_versionCostingLeast_7 : decode cX0_versionCostingLeast 7 = .ok (.istore 6, 2) := by decide +kernel
theorem dX0_versionCostingLeast_9 : decode cX0_versionCostingLeast 9 = .ok (.iload 6, 2) := by decide +kernel
theorem dX0_versionCostingLeast_11 : decode cX0_versionCostingLeast 11 = .ok (.aload_n 0, 1) := by decide +kernel
theorem dX0_versionCostingLeast_12 : decode cX0_versionCostingLeast 12 = .ok (.getfield 12, 3) := by decide +kernel
theorem dX0_versionCostingLeast_15 : decode cX0_versionCostingLeast 15 = .ok (.getfield 46, 3) := by decide +kernel
theorem dX0_versionCostingLeast_18 : decode cX0_versionCostingLeast 18 = .ok (.if_icmp .ge 54, 3) := by decide +kernel
theorem dX0_versionCostingLeast_21 : decode cX0_versionCostingLeast 21 = .ok (.aload_n 0, 1) := by decide +kernel
theorem dX0_versionCostingLeast_22 : decode cX0_versionCostingLeast 22 = .ok (.iload_n 1, 1) := by decide +kernel
theorem dX0_versionCostingLeast_23 : decode cX0_versionCostingLeast 23 = .ok (.iload 6, 2) := by decide +kernel
theorem dX0_versionCostingLeast_25 : decode cX0_versionCostingLeast 25 = .ok (.iload_n 2, 1) := by decide +kernel
theorem dX0_versionCostingLeast_26 : decode cX0_versionCostingLeast 26 = .ok (.iload_n 3, 1) := by decide +kernel
theorem dX0_versionCostingLeast_27 : decode cX0_versionCostingLeast 27 = .ok (.invokevirtual 160, 3) := by decide +kernel
theorem dX0_versionCostingLeast_30 : decode cX0_versionCostingLeast 30 = .ok (.iconst (-1), 1) := by decide +kernel
theorem dX0_versionCostingLeast_31 : decode cX0_versionCostingLeast 31 = .ok (.if_icmp .ne 35, 3) := by decide +kernel
theorem dX0_versionCostingLeast_34 : decode cX0_versionCostingLeast 34 = .ok (.aload_n 0, 1) := by decide +kernel
theorem dX0_versionCostingLeast_35 : decode cX0_versionCostingLeast 35 = .ok (.iload_n 1, 1) := by decide +kernel
theorem dX0_versionCostingLeast_36 : decode cX0_versionCostingLeast 36 = .ok (.iload 6, 2) := by decide +kernel
theorem dX0_versionCostingLeast_38 : decode cX0_versionCostingLeast 38 = .ok (.iload_n 2, 1) := by decide +kernel
theorem dX0_versionCostingLeast_39 : decode cX0_versionCostingLeast 39 = .ok (.iload_n 3, 1) := by decide +kernel
theorem dX0_versionCostingLeast_40 : decode cX0_versionCostingLeast 40 = .ok (.invokevirtual 167, 3) := by decide +kernel
theorem dX0_versionCostingLeast_43 : decode cX0_versionCostingLeast 43 = .ok (.istore 7, 2) := by decide +kernel
theorem dX0_versionCostingLeast_45 : decode cX0_versionCostingLeast 45 = .ok (.iload 4, 2) := by decide +kernel
theorem dX0_versionCostingLeast_47 : decode cX0_versionCostingLeast 47 = .ok (.iconst (-1), 1) := by decide +kernel
theorem dX0_versionCostingLeast_48 : decode cX0_versionCostingLeast 48 = .ok (.if_icmp .eq 10, 3) := by decide +kernel
theorem dX0_versionCostingLeast_51 : decode cX0_versionCostingLeast 51 = .ok (.iload 7, 2) := by decide +kernel
theorem dX0_versionCostingLeast_53 : decode cX0_versionCostingLeast 53 = .ok (.iload 5, 2) := by decide +kernel
theorem dX0_versionCostingLeast_55 : decode cX0_versionCostingLeast 55 = .ok (.if_icmp .ge 11, 3) := by decide +kernel
theorem dX0_versionCostingLeast_58 : decode cX0_versionCostingLeast 58 = .ok (.iload 6, 2) := by decide +kernel
theorem dX0_versionCostingLeast_60 : decode cX0_versionCostingLeast 60 = .ok (.istore 4, 2) := by decide +kernel
theorem dX0_versionCostingLeast_62 : decode cX0_versionCostingLeast 62 = .ok (.iload 7, 2) := by decide +kernel
theorem dX0_versionCostingLeast_64 : decode cX0_versionCostingLeast 64 = .ok (.istore 5, 2) := by decide +kernel
theorem dX0_versionCostingLeast_66 : decode cX0_versionCostingLeast 66 = .ok (.iinc 6 1, 3) := by decide +kernel
theorem dX0_versionCostingLeast_69 : decode cX0_versionCostingLeast 69 = .ok (.goto (-60), 3) := by decide +kernel
theorem dX0_versionCostingLeast_72 : decode cX0_versionCostingLeast 72 = .ok (.iload 4, 2) := by decide +kernel
theorem dX0_versionCostingLeast_74 : decode cX0_versionCostingLeast 74 = .ok (.ireturn, 1) := by decide +kernel
theorem dX1_init_0 : decode cX1_init 0 = .ok (.aload_n 0, 1) := by decide +kernel
theorem dX1_init_1 : decode cX1_init 1 = .ok (.invokespecial 3, 3) := by decide +kernel
theorem dX1_init_4 : decode cX1_init 4 = .ok (.aload_n 0, 1) := by decide +kernel
theorem dX1_init_5 : decode cX1_init 5 = .ok (.bipush 100, 2) := by decide +kernel
theorem dX1_init_7 : decode cX1_init 7 = .ok (.newarray .byte, 2) := by decide +kernel
theorem dX1_init_9 : decode cX1_init 9 = .ok (.putfield 9, 3) := by decide +kernel
theorem dX1_init_12 : decode cX1_init 12 = .ok (.aload_n 0, 1) := by decide +kernel
theorem dX1_init_13 : decode cX1_init 13 = .ok (.iconst 0, 1) := by decide +kernel
theorem dX1_init_14 : decode cX1_init 14 = .ok (.putfield 15, 3) := by decide +kernel
theorem dX1_init_17 : decode cX1_init 17 = .ok (.aload_n 0, 1) := by decide +kernel
theorem dX1_init_18 : decode cX1_init 18 = .ok (.iconst 0, 1) := by decide +kernel
theorem dX1_init_19 : decode cX1_init 19 = .ok (.putfield 19, 3) := by decide +kernel
theorem dX1_init_22 : decode cX1_init 22 = .ok (.aload_n 0, 1) := by decide +kernel
theorem dX1_init_23 : decode cX1_init 23 = .ok (.iconst (-1), 1) := by decide +kernel
theorem dX1_init_24 : decode cX1_init 24 = .ok (.putfield 22, 3) := by decide +kernel
theorem dX1_init_27 : decode cX1_init 27 = .ok (.aload_n 0, 1) := by decide +kernel
theorem dX1_init_28 : decode cX1_init 28 = .ok (.iconst 0, 1) := by decide +kernel
theorem dX1_init_29 : decode cX1_init 29 = .ok (.putfield 25, 3) := by decide +kernel
theorem dX1_init_32 : decode cX1_init 32 = .ok (.aload_n 0, 1) := by decide +kernel
theorem dX1_init_33 : decode cX1_init 33 = .ok (.iconst 5, 1) := by decide +kernel
theorem dX1_init_34 : decode cX1_init 34 = .ok (.newarray .int, 2) := by decide +kernel
theorem dX1_init_36 : decode cX1_init 36 = .ok (.putfield 28, 3) := by decide +kernel
theorem dX1_init_39 : decode cX1_init 39 = .ok (.aload_n 0, 1) := by decide +kernel
theorem dX1_init_40 : decode cX1_init 40 = .ok (.iconst 0, 1) := by decide +kernel
theorem dX1_init_41 : decode cX1_init 41 = .ok (.putfield 32, 3) := by decide +kernel
theorem dX1_init_44 : decode cX1_init 44 = .ok (.return_, 1) := by decide +kernel
theorem dX1_write_0 : decode cX1_write 0 = .ok (.aload_n 0, 1) := by decide +kernel
theorem dX1_write_1 : decode cX1_write 1 = .ok (.getfield 9, 3) := by decide +kernel
theorem dX1_write_4 : decode cX1_write 4 = .ok (.aload_n 0, 1) := by decide +kernel
theorem dX1_write_5 : decode cX1_write 5 = .ok (.getfield 15, 3) := by decide +kernel
theorem dX1_write_8 : decode cX1_write 8 = .ok (.iload_n 1, 1) := by decide +kernel
theorem dX1_write_9 : decode cX1_write 9 = .ok (.i2b, 1) := by decide +kernel
theorem dX1_write_10 : decode cX1_write 10 = .ok (.bastore, 1) := by decide +kernel
theorem dX1_write_11 : decode cX1_write 11 = .ok (.aload_n 0, 1) := by decide +kernel
theorem dX1_write_12 : decode cX1_write 12 = .ok (.dup, 1) := by decide +kernel
theorem dX1_write_13 : decode cX1_write 13 = .ok (.getfield 15, 3) := by decide +kernel
theorem dX1_write_16 : decode cX1_write 16 = .ok (.iconst 1, 1) := by decide +kernel
theorem dX1_write_17 : decode cX1_write 17 = .ok (.iadd, 1) := by decide +kernel
theorem dX1_write_18 : decode cX1_write 18 = .ok (.putfield 15, 3) := by decide +kernel
theorem dX1_write_21 : decode cX1_write 21 = .ok (.return_, 1) := by decide +kernel
theorem dX1_rewind_0 : decode cX1_rewind 0 = .ok (.aload_n 0, 1) := by decide +kernel
theorem dX1_rewind_1 : decode cX1_rewind 1 = .ok (.iconst 0, 1) := by decide +kernel
theorem dX1_rewind_2 : decode cX1_rewind 2 = .ok (.putfield 19, 3) := by decide +kernel
theorem dX1_rewind_5 : decode cX1_rewind 5 = .ok (.return_, 1) := by decide +kernel
set_option maxRecDepth 20000 in
theorem ggX1_syntaxError_X1_rewind : GoodIn wsX1_syntaxError wsX1_rewind := goodIn_r _ [8, 1, 101, 102, 103, 104, 105, 106, 107] (by decide +kernel) (by decide +kernel)
set_option maxRecDepth 20000 in
theorem gX1_syntaxError_X1_rewind : GoodIn wsX1_syntaxError (wsV RX1 35 RX1 yX1_rewind wsX1_rewind) := goodIn_app (goodIn_of _ (by decide +kernel)) ggX1_syntaxError_X1_rewind
set_option maxRecDepth 20000 in
theorem ggX1_syntaxError_X1_readOrder : GoodIn wsX1_syntaxError wsX1_readOrder := goodIn_r _ [12, 1, 2, 13, 14, 15, 16, 17, 7, 18, 19, 20, 21, 22, 23, 24, 25, 26, 27, 28, 3, 29, 30, 31, 32, 33, 34, 35, 36, 37, 38, 39, 40, 41, 42, 43, 44, 45, 46, 47, 48, 49, 50, 51, 52, 53, 54, 55, 56, 57, 58, 59, 60, 61, 62, 63, 64, 65, 66, 67, 68, 69, 70, 71, 72, 73, 74, 75, 76, 77, 78, 79, 80, 81, 82, 83, 84, 85, 86, 87, 88, 89, 90, 91, 92, 93, 94, 95, 96, 97, 98, 99, 100, 101, 102, 103, 104, 105, 106, 107] (by decide +kernel) (by decide +kernel)
set_option maxRecDepth 20000 in
theorem gX1_syntaxError_X1_readOrder : GoodIn wsX1_syntaxError (wsV RX1 38 RX1 yX1_readOrder wsX1_readOrder) := goodIn_app (goodIn_of _ (by decide +kernel)) ggX1_syntaxError_X1_readOrder
theorem dX1_syntaxError_0 : decode cX1_syntaxError 0 = .ok (.aload_n 0, 1) := by decide +kernel
theorem dX1_syntaxError_1 : decode cX1_syntaxError 1 = .ok (.invokevirtual 35, 3) := by decide +kernel
theorem dX1_syntaxError_4 : decode cX1_syntaxError 4 = .ok (.iconst 0, 1) := by decide +kernel
theorem dX1_syntaxError_5 : decode cX1_syntaxError 5 = .ok (.istore_n 1, 1) := by decide +kernel
theorem dX1_syntaxError_6 : decode cX1_syntaxError 6 = .ok (.iload_n 1, 1) := by decide +kernel
theorem dX1_syntaxError_7 : decode cX1_syntaxError 7 = .ok (.bipush 100, 2) := by decide +kernel
theorem dX1_syntaxError_9 : decode cX1_syntaxError 9 = .ok (.if_icmp .ge 32, 3) := by decide +kernel
theorem dX1_syntaxError_12 : decode cX1_syntaxError 12 = .ok (.aload_n 0, 1) := by decide +kernel
theorem dX1_syntaxError_13 : decode cX1_syntaxError 13 = .ok (.getfield 19, 3) := by decide +kernel
theorem dX1_syntaxError_16 : decode cX1_syntaxError 16 = .ok (.aload_n 0, 1) := by decide +kernel
theorem dX1_syntaxError_17 : decode cX1_syntaxError 17 = .ok (.getfield 15, 3) := by decide +kernel
theorem dX1_syntaxError_20 : decode cX1_syntaxError 20 = .ok (.if_icmp .ge 21, 3) := by decide +kernel
theorem dX1_syntaxError_23 : decode cX1_syntaxError 23 = .ok (.aload_n 0, 1) := by decide +kernel
theorem dX1_syntaxError_24 : decode cX1_syntaxError 24 = .ok (.invokevirtual 38, 3) := by decide +kernel
theorem dX1_syntaxError_27 : decode cX1_syntaxError 27 = .ok (.ifCond .ne 8, 3) := by decide +kernel
theorem dX1_syntaxError_30 : decode cX1_syntaxError 30 = .ok (.aload_n 0, 1) := by decide +kernel
theorem dX1_syntaxError_31 : decode cX1_syntaxError 31 = .ok (.getfield 22, 3) := by decide +kernel
theorem dX1_syntaxError_34 : decode cX1_syntaxError 34 = .ok (.ireturn, 1) := by decide +kernel
theorem dX1_syntaxError_35 : decode cX1_syntaxError 35 = .ok (.iinc 1 1, 3) := by decide +kernel
theorem dX1_syntaxError_38 : decode cX1_syntaxError 38 = .ok (.goto (-32), 3) := by decide +kernel
theorem dX1_syntaxError_41 : decode cX1_syntaxError 41 = .ok (.iconst (-1), 1) := by decide +kernel
theorem dX1_syntaxError_42 : decode cX1_syntaxError 42 = .ok (.ireturn, 1) := by decide +kernel
set_option maxRecDepth 20000 in
theorem ggX1_readOrder_X1_partsOf : GoodIn wsX1_readOrder wsX1_partsOf := goodIn_r _ [9] (by decide +kernel) (by decide +kernel)
set_option maxRecDepth 20000 in
theorem gX1_readOrder_X1_partsOf : GoodIn wsX1_readOrder (va_wsS RX1 42 yX1_partsOf wsX1_partsOf) := goodIn_app (goodIn_of _ (by decide +kernel)) ggX1_readOrder_X1_partsOf
set_option maxRecDepth 20000 in
theorem ggX1_readOrder_J0_isEmpty_aae02 : GoodIn wsX1_readOrder wsJ0_isEmpty_aae02 := goodIn_r _ [14, 15] (by decide +kernel) (by decide +kernel)
set_option maxRecDepth 20000 in
theorem gX1_readOrder_J0_isEmpty_aae02 : GoodIn wsX1_readOrder (wsV RX1 46 RJ0 yJ0_isEmpty_aae02 wsJ0_isEmpty_aae02) := goodIn_app (goodIn_of _ (by decide +kernel)) ggX1_readOrder_J0_isEmpty_aae02
set_option maxRecDepth 20000 in
theorem ggX1_readOrder_X1_fail : GoodIn wsX1_readOrder wsX1_fail := goodIn_r _ [19, 20, 93, 94, 95, 96, 97, 98, 99] (by decide +kernel) (by decide +kernel)
set_option maxRecDepth 20000 in
theorem gX1_readOrder_X1_fail : GoodIn wsX1_readOrder (wsV RX1 51 RX1 yX1_fail wsX1_fail) := goodIn_app (goodIn_of _ (by decide +kernel)) ggX1_readOrder_X1_fail
set_option maxRecDepth 20000 in
theorem ggX1_readOrder_J0_length_8abf5 : GoodIn wsX1_readOrder wsJ0_length_8abf5 := goodIn_r _ [24, 15, 25, 26, 27, 13, 28, 29, 30] (by decide +kernel) (by decide +kernel)
set_option maxRecDepth 20000 in
theorem gX1_readOrder_J0_length_8abf5 : GoodIn wsX1_readOrder (wsV RX1 55 RJ0 yJ0_length_8abf5 wsJ0_length_8abf5) := goodIn_app (goodIn_of _ (by decide +kernel)) ggX1_readOrder_J0_length_8abf5
set_option maxRecDepth 20000 in
theorem ggX1_readOrder_J0_charAt_5068e : GoodIn wsX1_readOrder wsJ0_charAt_5068e := goodIn_r _ [34, 15, 35, 36, 37, 13, 38, 29, 30, 39, 40, 41, 42, 43, 44, 45, 46, 47, 48, 49, 50, 51, 52, 53, 54, 55, 56, 57, 58, 59, 60, 61, 62, 63, 64, 65, 66, 67] (by decide +kernel) (by decide +kernel)
set_option maxRecDepth 20000 in
theorem gX1_readOrder_J0_charAt_5068e : GoodIn wsX1_readOrder (wsV RX1 58 RJ0 yJ0_charAt_5068e wsJ0_charAt_5068e) := goodIn_app (goodIn_of _ (by decide +kernel)) ggX1_readOrder_J0_charAt_5068e
set_option maxRecDepth 20000 in
theorem ggX1_readOrder_X1_readPart : GoodIn wsX1_readOrder wsX1_readPart := goodIn_r _ [71, 72, 73, 74, 8, 75, 1, 3, 76, 77, 78, 79, 2, 16, 17, 18, 19, 20, 80, 81, 82, 83, 5, 84, 85, 86, 87, 88, 89, 90, 91, 92, 93, 94, 95, 96, 97, 98, 99] (by decide +kernel) (by decide +kernel)
set_option maxRecDepth 20000 in
theorem gX1_readOrder_X1_readPart : GoodIn wsX1_readOrder (wsV RX1 62 RX1 yX1_readPart wsX1_readPart) := goodIn_app (goodIn_of _ (by decide +kernel)) ggX1_readOrder_X1_readPart
theorem dX1_readOrder_0 : decode cX1_readOrder 0 = .ok (.aload_n 0, 1) := by decide +kernel
theorem dX1_readOrder_1 : decode cX1_readOrder 1 = .ok (.getfield 19, 3) := by decide +kernel
theorem dX1_readOrder_4 : decode cX1_readOrder 4 = .ok (.aload_n 0, 1) := by decide +kernel
theorem dX1_readOrder_5 : decode cX1_readOrder 5 = .ok (.getfield 15, 3) := by decide +kernel
theorem dX1_readOrder_8 : decode cX1_readOrder 8 = .ok (.if_icmp .lt 5, 3) := by decide +kernel
theorem dX1_readOrder_11 : decode cX1_readOrder 11 = .ok (.iconst 0, 1) := by decide +kernel
theorem dX1_readOrder_12 : decode cX1_readOrder 12 = .ok (.ireturn, 1) := by decide +kernel
theorem dX1_readOrder_13 : decode cX1_readOrder 13 = .ok (.aload_n 0, 1) := by decide +kernel
theorem dX1_readOrder_14 : decode cX1_readOrder 14 = .ok (.aload_n 0, 1) := by decide +kernel
theorem dX1_readOrder_15 : decode cX1_readOrder 15 = .ok (.getfield 9, 3) := by decide +kernel
theorem dX1_readOrder_18 : decode cX1_readOrder 18 = .ok (.aload_n 0, 1) := by decide +kernel
theorem dX1_readOrder_19 : decode cX1_readOrder 19 = .ok (.getfield 19, 3) := by decide +kernel
theorem dX1_readOrder_22 : decode cX1_readOrder 22 = .ok (.baload, 1) := by decide +kernel
theorem dX1_readOrder_23 : decode cX1_readOrder 23 = .ok (.putfield 25, 3) := by decide +kernel
theorem dX1_readOrder_26 : decode cX1_readOrder 26 = .ok (.aload_n 0, 1) := by decide +kernel
theorem dX1_readOrder_27 : decode cX1_readOrder 27 = .ok (.getfield 25, 3) := by decide +kernel
theorem dX1_readOrder_30 : decode cX1_readOrder 30 = .ok (.invokestatic 42, 3) := by decide +kernel
theorem dX1_readOrder_33 : decode cX1_readOrder 33 = .ok (.astore_n 1, 1) := by decide +kernel
theorem dX1_readOrder_34 : decode cX1_readOrder 34 = .ok (.aload_n 1, 1) := by decide +kernel
theorem dX1_readOrder_35 : decode cX1_readOrder 35 = .ok (.invokevirtual 46, 3) := by decide +kernel
theorem dX1_readOrder_38 : decode cX1_readOrder 38 = .ok (.ifCond .eq 12, 3) := by decide +kernel
theorem dX1_readOrder_41 : decode cX1_readOrder 41 = .ok (.aload_n 0, 1) := by decide +kernel
theorem dX1_readOrder_42 : decode cX1_readOrder 42 = .ok (.aload_n 0, 1) := by decide +kernel
theorem dX1_readOrder_43 : decode cX1_readOrder 43 = .ok (.getfield 19, 3) := by decide +kernel
theorem dX1_readOrder_46 : decode cX1_readOrder 46 = .ok (.invokevirtual 51, 3) := by decide +kernel
theorem dX1_readOrder_49 : decode cX1_readOrder 49 = .ok (.ireturn, 1) := by decide +kernel
theorem dX1_readOrder_50 : decode cX1_readOrder 50 = .ok (.aload_n 0, 1) := by decide +kernel
theorem dX1_readOrder_51 : decode cX1_readOrder 51 = .ok (.dup, 1) := by decide +kernel
theorem dX1_readOrder_52 : decode cX1_readOrder 52 = .ok (.getfield 19, 3) := by decide +kernel
theorem dX1_readOrder_55 : decode cX1_readOrder 55 = .ok (.iconst 1, 1) := by decide +kernel
theorem dX1_readOrder_56 : decode cX1_readOrder 56 = .ok (.iadd, 1) := by decide +kernel
theorem dX1_readOrder_57 : decode cX1_readOrder 57 = .ok (.putfield 19, 3) := by decide +kernel
theorem dX1_readOrder_60 : decode cX1_readOrder 60 = .ok (.aload_n 0, 1) := by decide +kernel
theorem dX1_readOrder_61 : decode cX1_readOrder 61 = .ok (.iconst 0, 1) := by decide +kernel
theorem dX1_readOrder_62 : decode cX1_readOrder 62 = .ok (.putfield 32, 3) := by decide +kernel
theorem dX1_readOrder_65 : decode cX1_readOrder 65 = .ok (.iconst 0, 1) := by decide +kernel
theorem dX1_readOrder_66 : decode cX1_readOrder 66 = .ok (.istore_n 2, 1) := by decide +kernel
theorem dX1_readOrder_67 : decode cX1_readOrder 67 = .ok (.iload_n 2, 1) := by decide +kernel
theorem dX1_readOrder_68 : decode cX1_readOrder 68 = .ok (.aload_n 1, 1) := by decide +kernel
theorem dX1_readOrder_69 : decode cX1_readOrder 69 = .ok (.invokevirtual 55, 3) := by decide +kernel
theorem dX1_readOrder_72 : decode cX1_readOrder 72 = .ok (.if_icmp .ge 23, 3) := by decide +kernel
theorem dX1_readOrder_75 : decode cX1_readOrder 75 = .ok (.aload_n 0, 1) := by decide +kernel
theorem dX1_readOrder_76 : decode cX1_readOrder 76 = .ok (.aload_n 1, 1) := by decide +kernel
theorem dX1_readOrder_77 : decode cX1_readOrder 77 = .ok (.iload_n 2, 1) := by decide +kernel
theorem dX1_readOrder_78 : decode cX1_readOrder 78 = .ok (.invokevirtual 58, 3) := by decide +kernel
theorem dX1_readOrder_81 : decode cX1_readOrder 81 = .ok (.invokevirtual 62, 3) := by decide +kernel
theorem dX1_readOrder_84 : decode cX1_readOrder 84 = .ok (.ifCond .ne 5, 3) := by decide +kernel
theorem dX1_readOrder_87 : decode cX1_readOrder 87 = .ok (.iconst 0, 1) := by decide +kernel
theorem dX1_readOrder_88 : decode cX1_readOrder 88 = .ok (.ireturn, 1) := by decide +kernel
theorem dX1_readOrder_89 : decode cX1_readOrder 89 = .ok (.iinc 2 1, 3) := by decide +kernel
theorem dX1_readOrder_92 : decode cX1_readOrder 92 = .ok (.goto (-25), 3) := by decide +kernel
theorem dX1_readOrder_95 : decode cX1_readOrder 95 = .ok (.iconst 1, 1) := by decide +kernel
theorem dX1_readOrder_96 : decode cX1_readOrder 96 = .ok (.ireturn, 1) := by decide +kernel
theorem dX1_partsOf_0 : decode cX1_partsOf 0 = .ok (.iload_n 0, 1) := by decide +kernel
theorem dX1_partsOf_1 : decode cX1_partsOf 1 = .ok (.lookupswitch 66 #[(100, 63), (101, 57), (108, 54), (112, 51), (115, 60)], 51) := by decide +kernel
theorem dX1_partsOf_52 : decode cX1_partsOf 52 = .ok (.ldc 66, 2) := by decide +kernel
theorem dX1_partsOf_54 : decode cX1_partsOf 54 = .ok (.areturn, 1) := by decide +kernel
theorem dX1_partsOf_55 : decode cX1_partsOf 55 = .ok (.ldc 68, 2) := by decide +kernel
theorem dX1_partsOf_57 : decode cX1_partsOf 57 = .ok (.areturn, 1) := by decide +kernel
theorem dX1_partsOf_58 : decode cX1_partsOf 58 = .ok (.ldc 70, 2) := by decide +kernel
theorem dX1_partsOf_60 : decode cX1_partsOf 60 = .ok (.areturn, 1) := by decide +kernel
theorem dX1_partsOf_61 : decode cX1_partsOf 61 = .ok (.ldc 72, 2) := by decide +kernel
theorem dX1_partsOf_63 : decode cX1_partsOf 63 = .ok (.areturn, 1) := by decide +kernel
theorem dX1_partsOf_64 : decode cX1_partsOf 64 = .ok (.ldc 74, 2) := by decide +kernel
theorem dX1_partsOf_66 : decode cX1_partsOf 66 = .ok (.areturn, 1) := by decide +kernel
theorem dX1_partsOf_67 : decode cX1_partsOf 67 = .ok (.ldc 76, 2) := by decide +kernel
theorem dX1_partsOf_69 : decode cX1_partsOf 69 = .ok (.areturn, 1) := by decide +kernel
set_option maxRecDepth 20000 in
theorem ggX1_readPart_X1_readDigit : GoodIn wsX1_readPart wsX1_readDigit := goodIn_r _ [5, 6, 7, 8, 9, 10, 4, 11, 12, 13, 14, 15, 16, 17, 18, 19, 20, 21, 22, 23, 32, 33, 34, 35, 36, 37, 38] (by decide +kernel) (by decide +kernel)
set_option maxRecDepth 20000 in
theorem gX1_readPart_X1_readDigit : GoodIn wsX1_readPart (wsV RX1 78 RX1 yX1_readDigit wsX1_readDigit) := goodIn_app (goodIn_of _ (by decide +kernel)) ggX1_readPart_X1_readDigit
set_option maxRecDepth 20000 in
theorem ggX1_readPart_X1_readNumber : GoodIn wsX1_readPart wsX1_readNumber := goodIn_r _ [27, 6, 12, 7, 8, 9, 10, 4, 11, 13, 14, 15, 16, 17, 18, 19, 20, 21, 22, 23, 32, 33, 34, 35, 36, 37, 38] (by decide +kernel) (by decide +kernel)
set_option maxRecDepth 20000 in
theorem gX1_readPart_X1_readNumber : GoodIn wsX1_readPart (wsV RX1 81 RX1 yX1_readNumber wsX1_readNumber) := goodIn_app (goodIn_of _ (by decide +kernel)) ggX1_readPart_X1_readNumber
set_option maxRecDepth 20000 in
theorem ggX1_readPart_X1_readSign : GoodIn wsX1_readPart wsX1_readSign := goodIn_r _ [31, 6, 8, 9, 10, 4, 11, 12, 7, 13, 14, 15, 16, 17, 32, 33, 34, 35, 36, 37, 38] (by decide +kernel) (by decide +kernel)
set_option maxRecDepth 20000 in
theorem gX1_readPart_X1_readSign : GoodIn wsX1_readPart (wsV RX1 85 RX1 yX1_readSign wsX1_readSign) := goodIn_app (goodIn_of _ (by decide +kernel)) ggX1_readPart_X1_readSign
theorem dX1_readPart_0 : decode cX1_readPart 0 = .ok (.iload_n 1, 1) := by decide +kernel
theorem dX1_readPart_1 : decode cX1_readPart 1 = .ok (.lookupswitch 86 #[(100, 65), (109, 72), (110, 51), (118, 58), (122, 79)], 51) := by decide +kernel
theorem dX1_readPart_52 : decode cX1_readPart 52 = .ok (.aload_n 0, 1) := by decide +kernel
theorem dX1_readPart_53 : decode cX1_readPart 53 = .ok (.bipush 57, 2) := by decide +kernel
theorem dX1_readPart_55 : decode cX1_readPart 55 = .ok (.invokevirtual 78, 3) := by decide +kernel
theorem dX1_readPart_58 : decode cX1_readPart 58 = .ok (.ireturn, 1) := by decide +kernel
theorem dX1_readPart_59 : decode cX1_readPart 59 = .ok (.aload_n 0, 1) := by decide +kernel
theorem dX1_readPart_60 : decode cX1_readPart 60 = .ok (.bipush 55, 2) := by decide +kernel
theorem dX1_readPart_62 : decode cX1_readPart 62 = .ok (.invokevirtual 78, 3) := by decide +kernel
theorem dX1_readPart_65 : decode cX1_readPart 65 = .ok (.ireturn, 1) := by decide +kernel
theorem dX1_readPart_66 : decode cX1_readPart 66 = .ok (.aload_n 0, 1) := by decide +kernel
theorem dX1_readPart_67 : decode cX1_readPart 67 = .ok (.iconst 3, 1) := by decide +kernel
theorem dX1_readPart_68 : decode cX1_readPart 68 = .ok (.iconst 0, 1) := by decide +kernel
theorem dX1_readPart_69 : decode cX1_readPart 69 = .ok (.invokevirtual 81, 3) := by decide +kernel
theorem dX1_readPart_72 : decode cX1_readPart 72 = .ok (.ireturn, 1) := by decide +kernel
theorem dX1_readPart_73 : decode cX1_readPart 73 = .ok (.aload_n 0, 1) := by decide +kernel
theorem dX1_readPart_74 : decode cX1_readPart 74 = .ok (.iconst 2, 1) := by decide +kernel
theorem dX1_readPart_75 : decode cX1_readPart 75 = .ok (.iconst 1, 1) := by decide +kernel
theorem dX1_readPart_76 : decode cX1_readPart 76 = .ok (.invokevirtual 81, 3) := by decide +kernel
theorem dX1_readPart_79 : decode cX1_readPart 79 = .ok (.ireturn, 1) := by decide +kernel
theorem dX1_readPart_80 : decode cX1_readPart 80 = .ok (.aload_n 0, 1) := by decide +kernel
theorem dX1_readPart_81 : decode cX1_readPart 81 = .ok (.iconst 2, 1) := by decide +kernel
theorem dX1_readPart_82 : decode cX1_readPart 82 = .ok (.iconst 0, 1) := by decide +kernel
theorem dX1_readPart_83 : decode cX1_readPart 83 = .ok (.invokevirtual 81, 3) := by decide +kernel
theorem dX1_readPart_86 : decode cX1_readPart 86 = .ok (.ireturn, 1) := by decide +kernel
theorem dX1_readPart_87 : decode cX1_readPart 87 = .ok (.aload_n 0, 1) := by decide +kernel
theorem dX1_readPart_88 : decode cX1_readPart 88 = .ok (.iload_n 1, 1) := by decide +kernel
theorem dX1_readPart_89 : decode cX1_readPart 89 = .ok (.invokevirtual 85, 3) := by decide +kernel
theorem dX1_readPart_92 : decode cX1_readPart 92 = .ok (.ireturn, 1) := by decide +kernel
set_option maxRecDepth 20000 in
theorem ggX1_readSign_X1_isNextWithin : GoodIn wsX1_readSign wsX1_isNextWithin := goodIn_r _ [6, 1, 7, 8, 14, 15, 16, 17, 18, 19, 20] (by decide +kernel) (by decide +kernel)
set_option maxRecDepth 20000 in
theorem gX1_readSign_X1_isNextWithin : GoodIn wsX1_readSign (wsV RX1 88 RX1 yX1_isNextWithin wsX1_isNextWithin) := goodIn_app (goodIn_of _ (by decide +kernel)) ggX1_readSign_X1_isNextWithin
set_option maxRecDepth 20000 in
theorem ggX1_readSign_X1_fail : GoodIn wsX1_readSign wsX1_fail := goodIn_r _ [12, 13, 14, 15, 16, 17, 18, 19, 20] (by decide +kernel) (by decide +kernel)
set_option maxRecDepth 20000 in
theorem gX1_readSign_X1_fail : GoodIn wsX1_readSign (wsV RX1 51 RX1 yX1_fail wsX1_fail) := goodIn_app (goodIn_of _ (by decide +kernel)) ggX1_readSign_X1_fail
theorem dX1_readSign_0 : decode cX1_readSign 0 = .ok (.aload_n 0, 1) := by decide +kernel
theorem dX1_readSign_1 : decode cX1_readSign 1 = .ok (.iload_n 1, 1) := by decide +kernel
theorem dX1_readSign_2 : decode cX1_readSign 2 = .ok (.iload_n 1, 1) := by decide +kernel
theorem dX1_readSign_3 : decode cX1_readSign 3 = .ok (.invokevirtual 88, 3) := by decide +kernel
theorem dX1_readSign_6 : decode cX1_readSign 6 = .ok (.ifCond .ne 12, 3) := by decide +kernel
theorem dX1_readSign_9 : decode cX1_readSign 9 = .ok (.aload_n 0, 1) := by decide +kernel
theorem dX1_readSign_10 : decode cX1_readSign 10 = .ok (.aload_n 0, 1) := by decide +kernel
theorem dX1_readSign_11 : decode cX1_readSign 11 = .ok (.getfield 19, 3) := by decide +kernel
theorem dX1_readSign_14 : decode cX1_readSign 14 = .ok (.invokevirtual 51, 3) := by decide +kernel
theorem dX1_readSign_17 : decode cX1_readSign 17 = .ok (.ireturn, 1) := by decide +kernel
theorem dX1_readSign_18 : decode cX1_readSign 18 = .ok (.aload_n 0, 1) := by decide +kernel
theorem dX1_readSign_19 : decode cX1_readSign 19 = .ok (.dup, 1) := by decide +kernel
theorem dX1_readSign_20 : decode cX1_readSign 20 = .ok (.getfield 19, 3) := by decide +kernel
theorem dX1_readSign_23 : decode cX1_readSign 23 = .ok (.iconst 1, 1) := by decide +kernel
theorem dX1_readSign_24 : decode cX1_readSign 24 = .ok (.iadd, 1) := by decide +kernel
theorem dX1_readSign_25 : decode cX1_readSign 25 = .ok (.putfield 19, 3) := by decide +kernel
theorem dX1_readSign_28 : decode cX1_readSign 28 = .ok (.iconst 1, 1) := by decide +kernel
theorem dX1_readSign_29 : decode cX1_readSign 29 = .ok (.ireturn, 1) := by decide +kernel
set_option maxRecDepth 20000 in
theorem ggX1_readDigit_X1_isNextWithin : GoodIn wsX1_readDigit wsX1_isNextWithin := goodIn_r _ [7, 1, 8, 2, 20, 21, 22, 23, 24, 25, 26] (by decide +kernel) (by decide +kernel)
set_option maxRecDepth 20000 in
theorem gX1_readDigit_X1_isNextWithin : GoodIn wsX1_readDigit (wsV RX1 88 RX1 yX1_isNextWithin wsX1_isNextWithin) := goodIn_app (goodIn_of _ (by decide +kernel)) ggX1_readDigit_X1_isNextWithin
set_option maxRecDepth 20000 in
theorem ggX1_readDigit_X1_fail : GoodIn wsX1_readDigit wsX1_fail := goodIn_r _ [12, 13, 20, 21, 22, 23, 24, 25, 26] (by decide +kernel) (by decide +kernel)
set_option maxRecDepth 20000 in
theorem gX1_readDigit_X1_fail : GoodIn wsX1_readDigit (wsV RX1 51 RX1 yX1_fail wsX1_fail) := goodIn_app (goodIn_of _ (by decide +kernel)) ggX1_readDigit_X1_fail
set_option maxRecDepth 20000 in
theorem ggX1_readDigit_X1_keep : GoodIn wsX1_readDigit wsX1_keep := goodIn_r _ [17, 18, 19, 20, 21, 22, 23, 24, 25, 26] (by decide +kernel) (by decide +kernel)
set_option maxRecDepth 20000 in
theorem gX1_readDigit_X1_keep : GoodIn wsX1_readDigit (wsV RX1 92 RX1 yX1_keep wsX1_keep) := goodIn_app (goodIn_of _ (by decide +kernel)) ggX1_readDigit_X1_keep
theorem dX1_readDigit_0 : decode cX1_readDigit 0 = .ok (.aload_n 0, 1) := by decide +kernel
theorem dX1_readDigit_1 : decode cX1_readDigit 1 = .ok (.bipush 48, 2) := by decide +kernel
theorem dX1_readDigit_3 : decode cX1_readDigit 3 = .ok (.iload_n 1, 1) := by decide +kernel
theorem dX1_readDigit_4 : decode cX1_readDigit 4 = .ok (.invokevirtual 88, 3) := by decide +kernel
theorem dX1_readDigit_7 : decode cX1_readDigit 7 = .ok (.ifCond .ne 12, 3) := by decide +kernel
theorem dX1_readDigit_10 : decode cX1_readDigit 10 = .ok (.aload_n 0, 1) := by decide +kernel
theorem dX1_readDigit_11 : decode cX1_readDigit 11 = .ok (.aload_n 0, 1) := by decide +kernel
theorem dX1_readDigit_12 : decode cX1_readDigit 12 = .ok (.getfield 19, 3) := by decide +kernel
theorem dX1_readDigit_15 : decode cX1_readDigit 15 = .ok (.invokevirtual 51, 3) := by decide +kernel
theorem dX1_readDigit_18 : decode cX1_readDigit 18 = .ok (.ireturn, 1) := by decide +kernel
theorem dX1_readDigit_19 : decode cX1_readDigit 19 = .ok (.aload_n 0, 1) := by decide +kernel
theorem dX1_readDigit_20 : decode cX1_readDigit 20 = .ok (.aload_n 0, 1) := by decide +kernel
theorem dX1_readDigit_21 : decode cX1_readDigit 21 = .ok (.getfield 9, 3) := by decide +kernel
theorem dX1_readDigit_24 : decode cX1_readDigit 24 = .ok (.aload_n 0, 1) := by decide +kernel
theorem dX1_readDigit_25 : decode cX1_readDigit 25 = .ok (.getfield 19, 3) := by decide +kernel
theorem dX1_readDigit_28 : decode cX1_readDigit 28 = .ok (.baload, 1) := by decide +kernel
theorem dX1_readDigit_29 : decode cX1_readDigit 29 = .ok (.bipush 48, 2) := by decide +kernel
theorem dX1_readDigit_31 : decode cX1_readDigit 31 = .ok (.isub, 1) := by decide +kernel
theorem dX1_readDigit_32 : decode cX1_readDigit 32 = .ok (.invokevirtual 92, 3) := by decide +kernel
theorem dX1_readDigit_35 : decode cX1_readDigit 35 = .ok (.aload_n 0, 1) := by decide +kernel
theorem dX1_readDigit_36 : decode cX1_readDigit 36 = .ok (.dup, 1) := by decide +kernel
theorem dX1_readDigit_37 : decode cX1_readDigit 37 = .ok (.getfield 19, 3) := by decide +kernel
theorem dX1_readDigit_40 : decode cX1_readDigit 40 = .ok (.iconst 1, 1) := by decide +kernel
theorem dX1_readDigit_41 : decode cX1_readDigit 41 = .ok (.iadd, 1) := by decide +kernel
theorem dX1_readDigit_42 : decode cX1_readDigit 42 = .ok (.putfield 19, 3) := by decide +kernel
theorem dX1_readDigit_45 : decode cX1_readDigit 45 = .ok (.iconst 1, 1) := by decide +kernel
theorem dX1_readDigit_46 : decode cX1_readDigit 46 = .ok (.ireturn, 1) := by decide +kernel
set_option maxRecDepth 20000 in
theorem ggX1_readNumber_X1_isNextWithin : GoodIn wsX1_readNumber wsX1_isNextWithin := goodIn_r _ [8, 1, 2, 3, 20, 21, 22, 23, 24, 25, 26] (by decide +kernel) (by decide +kernel)
set_option maxRecDepth 20000 in
theorem gX1_readNumber_X1_isNextWithin : GoodIn wsX1_readNumber (wsV RX1 88 RX1 yX1_isNextWithin wsX1_isNextWithin) := goodIn_app (goodIn_of _ (by decide +kernel)) ggX1_readNumber_X1_isNextWithin
set_option maxRecDepth 20000 in
theorem ggX1_readNumber_X1_fail : GoodIn wsX1_readNumber wsX1_fail := goodIn_r _ [12, 13, 20, 21, 22, 23, 24, 25, 26] (by decide +kernel) (by decide +kernel)
set_option maxRecDepth 20000 in
theorem gX1_readNumber_X1_fail : GoodIn wsX1_readNumber (wsV RX1 51 RX1 yX1_fail wsX1_fail) := goodIn_app (goodIn_of _ (by decide +kernel)) ggX1_readNumber_X1_fail
set_option maxRecDepth 20000 in
theorem ggX1_readNumber_X1_keep : GoodIn wsX1_readNumber wsX1_keep := goodIn_r _ [17, 18, 19, 20, 21, 22, 23, 24, 25, 26] (by decide +kernel) (by decide +kernel)
set_option maxRecDepth 20000 in
theorem gX1_readNumber_X1_keep : GoodIn wsX1_readNumber (wsV RX1 92 RX1 yX1_keep wsX1_keep) := goodIn_app (goodIn_of _ (by decide +kernel)) ggX1_readNumber_X1_keep
theorem dX1_readNumber_0 : decode cX1_readNumber 0 = .ok (.aload_n 0, 1) := by decide +kernel
theorem dX1_readNumber_1 : decode cX1_readNumber 1 = .ok (.getfield 19, 3) := by decide +kernel
theorem dX1_readNumber_4 : decode cX1_readNumber 4 = .ok (.istore_n 3, 1) := by decide +kernel
theorem dX1_readNumber_5 : decode cX1_readNumber 5 = .ok (.iconst 0, 1) := by decide +kernel
theorem dX1_readNumber_6 : decode cX1_readNumber 6 = .ok (.istore 4, 2) := by decide +kernel
theorem dX1_readNumber_8 : decode cX1_readNumber 8 = .ok (.aload_n 0, 1) := by decide +kernel
theorem dX1_readNumber_9 : decode cX1_readNumber 9 = .ok (.getfield 19, 3) := by decide +kernel
theorem dX1_readNumber_12 : decode cX1_readNumber 12 = .ok (.aload_n 0, 1) := by decide +kernel
theorem dX1_readNumber_13 : decode cX1_readNumber 13 = .ok (.getfield 15, 3) := by decide +kernel
theorem dX1_readNumber_16 : decode cX1_readNumber 16 = .ok (.if_icmp .ge 66, 3) := by decide +kernel
theorem dX1_readNumber_19 : decode cX1_readNumber 19 = .ok (.aload_n 0, 1) := by decide +kernel
theorem dX1_readNumber_20 : decode cX1_readNumber 20 = .ok (.bipush 48, 2) := by decide +kernel
theorem dX1_readNumber_22 : decode cX1_readNumber 22 = .ok (.bipush 57, 2) := by decide +kernel
theorem dX1_readNumber_24 : decode cX1_readNumber 24 = .ok (.invokevirtual 88, 3) := by decide +kernel
theorem dX1_readNumber_27 : decode cX1_readNumber 27 = .ok (.ifCond .eq 55, 3) := by decide +kernel
theorem dX1_readNumber_30 : decode cX1_readNumber 30 = .ok (.aload_n 0, 1) := by decide +kernel
theorem dX1_readNumber_31 : decode cX1_readNumber 31 = .ok (.getfield 19, 3) := by decide +kernel
theorem dX1_readNumber_34 : decode cX1_readNumber 34 = .ok (.iload_n 3, 1) := by decide +kernel
theorem dX1_readNumber_35 : decode cX1_readNumber 35 = .ok (.isub, 1) := by decide +kernel
theorem dX1_readNumber_36 : decode cX1_readNumber 36 = .ok (.iload_n 1, 1) := by decide +kernel
theorem dX1_readNumber_37 : decode cX1_readNumber 37 = .ok (.if_icmp .ne 12, 3) := by decide +kernel
theorem dX1_readNumber_40 : decode cX1_readNumber 40 = .ok (.aload_n 0, 1) := by decide +kernel
theorem dX1_readNumber_41 : decode cX1_readNumber 41 = .ok (.aload_n 0, 1) := by decide +kernel
theorem dX1_readNumber_42 : decode cX1_readNumber 42 = .ok (.getfield 19, 3) := by decide +kernel
theorem dX1_readNumber_45 : decode cX1_readNumber 45 = .ok (.invokevirtual 51, 3) := by decide +kernel
theorem dX1_readNumber_48 : decode cX1_readNumber 48 = .ok (.ireturn, 1) := by decide +kernel
theorem dX1_readNumber_49 : decode cX1_readNumber 49 = .ok (.bipush 10, 2) := by decide +kernel
theorem dX1_readNumber_51 : decode cX1_readNumber 51 = .ok (.iload 4, 2) := by decide +kernel
theorem dX1_readNumber_53 : decode cX1_readNumber 53 = .ok (.imul, 1) := by decide +kernel
theorem dX1_readNumber_54 : decode cX1_readNumber 54 = .ok (.aload_n 0, 1) := by decide +kernel
theorem dX1_readNumber_55 : decode cX1_readNumber 55 = .ok (.getfield 9, 3) := by decide +kernel
theorem dX1_readNumber_58 : decode cX1_readNumber 58 = .ok (.aload_n 0, 1) := by decide +kernel
theorem dX1_readNumber_59 : decode cX1_readNumber 59 = .ok (.getfield 19, 3) := by decide +kernel
theorem dX1_readNumber_62 : decode cX1_readNumber 62 = .ok (.baload, 1) := by decide +kernel
theorem dX1_readNumber_63 : decode cX1_readNumber 63 = .ok (.iadd, 1) := by decide +kernel
theorem dX1_readNumber_64 : decode cX1_readNumber 64 = .ok (.bipush 48, 2) := by decide +kernel
theorem dX1_readNumber_66 : decode cX1_readNumber 66 = .ok (.isub, 1) := by decide +kernel
theorem dX1_readNumber_67 : decode cX1_readNumber 67 = .ok (.istore 4, 2) := by decide +kernel
theorem dX1_readNumber_69 : decode cX1_readNumber 69 = .ok (.aload_n 0, 1) := by decide +kernel
theorem dX1_readNumber_70 : decode cX1_readNumber 70 = .ok (.dup, 1) := by decide +kernel
theorem dX1_readNumber_71 : decode cX1_readNumber 71 = .ok (.getfield 19, 3) := by decide +kernel
theorem dX1_readNumber_74 : decode cX1_readNumber 74 = .ok (.iconst 1, 1) := by decide +kernel
theorem dX1_readNumber_75 : decode cX1_readNumber 75 = .ok (.iadd, 1) := by decide +kernel
theorem dX1_readNumber_76 : decode cX1_readNumber 76 = .ok (.putfield 19, 3) := by decide +kernel
theorem dX1_readNumber_79 : decode cX1_readNumber 79 = .ok (.goto (-71), 3) := by decide +kernel
theorem dX1_readNumber_82 : decode cX1_readNumber 82 = .ok (.aload_n 0, 1) := by decide +kernel
theorem dX1_readNumber_83 : decode cX1_readNumber 83 = .ok (.getfield 19, 3) := by decide +kernel
theorem dX1_readNumber_86 : decode cX1_readNumber 86 = .ok (.iload_n 3, 1) := by decide +kernel
theorem dX1_readNumber_87 : decode cX1_readNumber 87 = .ok (.if_icmp .ne 12, 3) := by decide +kernel
theorem dX1_readNumber_90 : decode cX1_readNumber 90 = .ok (.aload_n 0, 1) := by decide +kernel
theorem dX1_readNumber_91 : decode cX1_readNumber 91 = .ok (.aload_n 0, 1) := by decide +kernel
theorem dX1_readNumber_92 : decode cX1_readNumber 92 = .ok (.getfield 19, 3) := by decide +kernel
theorem dX1_readNumber_95 : decode cX1_readNumber 95 = .ok (.invokevirtual 51, 3) := by decide +kernel
theorem dX1_readNumber_98 : decode cX1_readNumber 98 = .ok (.ireturn, 1) := by decide +kernel
theorem dX1_readNumber_99 : decode cX1_readNumber 99 = .ok (.iload 4, 2) := by decide +kernel
theorem dX1_readNumber_101 : decode cX1_readNumber 101 = .ok (.iload_n 2, 1) := by decide +kernel
theorem dX1_readNumber_102 : decode cX1_readNumber 102 = .ok (.if_icmp .ge 9, 3) := by decide +kernel
theorem dX1_readNumber_105 : decode cX1_readNumber 105 = .ok (.aload_n 0, 1) := by decide +kernel
theorem dX1_readNumber_106 : decode cX1_readNumber 106 = .ok (.iload_n 3, 1) := by decide +kernel
theorem dX1_readNumber_107 : decode cX1_readNumber 107 = .ok (.invokevirtual 51, 3) := by decide +kernel
theorem dX1_readNumber_110 : decode cX1_readNumber 110 = .ok (.ireturn, 1) := by decide +kernel
theorem dX1_readNumber_111 : decode cX1_readNumber 111 = .ok (.aload_n 0, 1) := by decide +kernel
theorem dX1_readNumber_112 : decode cX1_readNumber 112 = .ok (.iload 4, 2) := by decide +kernel
theorem dX1_readNumber_114 : decode cX1_readNumber 114 = .ok (.invokevirtual 92, 3) := by decide +kernel
theorem dX1_readNumber_117 : decode cX1_readNumber 117 = .ok (.iconst 1, 1) := by decide +kernel
theorem dX1_readNumber_118 : decode cX1_readNumber 118 = .ok (.ireturn, 1) := by decide +kernel
theorem dX1_isNextWithin_0 : decode cX1_isNextWithin 0 = .ok (.aload_n 0, 1) := by decide +kernel
theorem dX1_isNextWithin_1 : decode cX1_isNextWithin 1 = .ok (.getfield 19, 3) := by decide +kernel
theorem dX1_isNextWithin_4 : decode cX1_isNextWithin 4 = .ok (.aload_n 0, 1) := by decide +kernel
theorem dX1_isNextWithin_5 : decode cX1_isNextWithin 5 = .ok (.getfield 15, 3) := by decide +kernel
theorem dX1_isNextWithin_8 : decode cX1_isNextWithin 8 = .ok (.if_icmp .ge 33, 3) := by decide +kernel
theorem dX1_isNextWithin_11 : decode cX1_isNextWithin 11 = .ok (.aload_n 0, 1) := by decide +kernel
theorem dX1_isNextWithin_12 : decode cX1_isNextWithin 12 = .ok (.getfield 9, 3) := by decide +kernel
theorem dX1_isNextWithin_15 : decode cX1_isNextWithin 15 = .ok (.aload_n 0, 1) := by decide +kernel
theorem dX1_isNextWithin_16 : decode cX1_isNextWithin 16 = .ok (.getfield 19, 3) := by decide +kernel
theorem dX1_isNextWithin_19 : decode cX1_isNextWithin 19 = .ok (.baload, 1) := by decide +kernel
theorem dX1_isNextWithin_20 : decode cX1_isNextWithin 20 = .ok (.iload_n 1, 1) := by decide +kernel
theorem dX1_isNextWithin_21 : decode cX1_isNextWithin 21 = .ok (.if_icmp .lt 20, 3) := by decide +kernel
theorem dX1_isNextWithin_24 : decode cX1_isNextWithin 24 = .ok (.aload_n 0, 1) := by decide +kernel
theorem dX1_isNextWithin_25 : decode cX1_isNextWithin 25 = .ok (.getfield 9, 3) := by decide +kernel
theorem dX1_isNextWithin_28 : decode cX1_isNextWithin 28 = .ok (.aload_n 0, 1) := by decide +kernel
theorem dX1_isNextWithin_29 : decode cX1_isNextWithin 29 = .ok (.getfield 19, 3) := by decide +kernel
theorem dX1_isNextWithin_32 : decode cX1_isNextWithin 32 = .ok (.baload, 1) := by decide +kernel
theorem dX1_isNextWithin_33 : decode cX1_isNextWithin 33 = .ok (.iload_n 2, 1) := by decide +kernel
theorem dX1_isNextWithin_34 : decode cX1_isNextWithin 34 = .ok (.if_icmp .gt 7, 3) := by decide +kernel
theorem dX1_isNextWithin_37 : decode cX1_isNextWithin 37 = .ok (.iconst 1, 1) := by decide +kernel
theorem dX1_isNextWithin_38 : decode cX1_isNextWithin 38 = .ok (.goto 4, 3) := by decide +kernel
theorem dX1_isNextWithin_41 : decode cX1_isNextWithin 41 = .ok (.iconst 0, 1) := by decide +kernel
theorem dX1_isNextWithin_42 : decode cX1_isNextWithin 42 = .ok (.ireturn, 1) := by decide +kernel
theorem dX1_fail_0 : decode cX1_fail 0 = .ok (.aload_n 0, 1) := by decide +kernel
theorem dX1_fail_1 : decode cX1_fail 1 = .ok (.iload_n 1, 1) := by decide +kernel
theorem dX1_fail_2 : decode cX1_fail 2 = .ok (.putfield 22, 3) := by decide +kernel
theorem dX1_fail_5 : decode cX1_fail 5 = .ok (.iconst 0, 1) := by decide +kernel
theorem dX1_fail_6 : decode cX1_fail 6 = .ok (.ireturn, 1) := by decide +kernel
theorem dX1_keep_0 : decode cX1_keep 0 = .ok (.aload_n 0, 1) := by decide +kernel
theorem dX1_keep_1 : decode cX1_keep 1 = .ok (.getfield 32, 3) := by decide +kernel
theorem dX1_keep_4 : decode cX1_keep 4 = .ok (.aload_n 0, 1) := by decide +kernel
theorem dX1_keep_5 : decode cX1_keep 5 = .ok (.getfield 28, 3) := by decide +kernel
theorem dX1_keep_8 : decode cX1_keep 8 = .ok (.arraylength, 1) := by decide +kernel
theorem dX1_keep_9 : decode cX1_keep 9 = .ok (.if_icmp .ge 23, 3) := by decide +kernel
theorem dX1_keep_12 : decode cX1_keep 12 = .ok (.aload_n 0, 1) := by decide +kernel
theorem dX1_keep_13 : decode cX1_keep 13 = .ok (.getfield 28, 3) := by decide +kernel
theorem dX1_keep_16 : decode cX1_keep 16 = .ok (.aload_n 0, 1) := by decide +kernel
theorem dX1_keep_17 : decode cX1_keep 17 = .ok (.getfield 32, 3) := by decide +kernel
theorem dX1_keep_20 : decode cX1_keep 20 = .ok (.iload_n 1, 1) := by decide +kernel
theorem dX1_keep_21 : decode cX1_keep 21 = .ok (.iastore, 1) := by decide +kernel
theorem dX1_keep_22 : decode cX1_keep 22 = .ok (.aload_n 0, 1) := by decide +kernel
theorem dX1_keep_23 : decode cX1_keep 23 = .ok (.dup, 1) := by decide +kernel
theorem dX1_keep_24 : decode cX1_keep 24 = .ok (.getfield 32, 3) := by decide +kernel
theorem dX1_keep_27 : decode cX1_keep 27 = .ok (.iconst 1, 1) := by decide +kernel
theorem dX1_keep_28 : decode cX1_keep 28 = .ok (.iadd, 1) := by decide +kernel
theorem dX1_keep_29 : decode cX1_keep 29 = .ok (.putfield 32, 3) := by decide +kernel
theorem dX1_keep_32 : decode cX1_keep 32 = .ok (.return_, 1) := by decide +kernel
theorem dX2_init_0 : decode cX2_init 0 = .ok (.aload_n 0, 1) := by decide +kernel
theorem dX2_init_1 : decode cX2_init 1 = .ok (.invokespecial 3, 3) := by decide +kernel
theorem dX2_init_4 : decode cX2_init 4 = .ok (.aload_n 0, 1) := by decide +kernel
theorem dX2_init_5 : decode cX2_init 5 = .ok (.iconst 0, 1) := by decide +kernel
theorem dX2_init_6 : decode cX2_init 6 = .ok (.putfield 9, 3) := by decide +kernel
theorem dX2_init_9 : decode cX2_init 9 = .ok (.aload_n 0, 1) := by decide +kernel
theorem dX2_init_10 : decode cX2_init 10 = .ok (.bipush 12, 2) := by decide +kernel
theorem dX2_init_12 : decode cX2_init 12 = .ok (.newarray .int, 2) := by decide +kernel
theorem dX2_init_14 : decode cX2_init 14 = .ok (.putfield 15, 3) := by decide +kernel
theorem dX2_init_17 : decode cX2_init 17 = .ok (.aload_n 0, 1) := by decide +kernel
theorem dX2_init_18 : decode cX2_init 18 = .ok (.bipush 12, 2) := by decide +kernel
theorem dX2_init_20 : decode cX2_init 20 = .ok (.newarray .int, 2) := by decide +kernel
theorem dX2_init_22 : decode cX2_init 22 = .ok (.putfield 19, 3) := by decide +kernel
theorem dX2_init_25 : decode cX2_init 25 = .ok (.aload_n 0, 1) := by decide +kernel
theorem dX2_init_26 : decode cX2_init 26 = .ok (.bipush 12, 2) := by decide +kernel
theorem dX2_init_28 : decode cX2_init 28 = .ok (.newarray .int, 2) := by decide +kernel
theorem dX2_init_30 : decode cX2_init 30 = .ok (.putfield 22, 3) := by decide +kernel
theorem dX2_init_33 : decode cX2_init 33 = .ok (.aload_n 0, 1) := by decide +kernel
theorem dX2_init_34 : decode cX2_init 34 = .ok (.bipush 12, 2) := by decide +kernel
theorem dX2_init_36 : decode cX2_init 36 = .ok (.newarray .int, 2) := by decide +kernel
theorem dX2_init_38 : decode cX2_init 38 = .ok (.putfield 25, 3) := by decide +kernel
theorem dX2_init_41 : decode cX2_init 41 = .ok (.aload_n 0, 1) := by decide +kernel
theorem dX2_init_42 : decode cX2_init 42 = .ok (.bipush 12, 2) := by decide +kernel
theorem dX2_init_44 : decode cX2_init 44 = .ok (.newarray .int, 2) := by decide +kernel
theorem dX2_init_46 : decode cX2_init 46 = .ok (.putfield 28, 3) := by decide +kernel
theorem dX2_init_49 : decode cX2_init 49 = .ok (.return_, 1) := by decide +kernel
theorem dX2_copy_0 : decode cX2_copy 0 = .ok (.aload_n 0, 1) := by decide +kernel
theorem dX2_copy_1 : decode cX2_copy 1 = .ok (.aload_n 1, 1) := by decide +kernel
theorem dX2_copy_2 : decode cX2_copy 2 = .ok (.getfield 9, 3) := by decide +kernel
theorem dX2_copy_5 : decode cX2_copy 5 = .ok (.putfield 9, 3) := by decide +kernel
theorem dX2_copy_8 : decode cX2_copy 8 = .ok (.aload_n 1, 1) := by decide +kernel
theorem dX2_copy_9 : decode cX2_copy 9 = .ok (.getfield 15, 3) := by decide +kernel
theorem dX2_copy_12 : decode cX2_copy 12 = .ok (.iconst 0, 1) := by decide +kernel
theorem dX2_copy_13 : decode cX2_copy 13 = .ok (.aload_n 0, 1) := by decide +kernel
theorem dX2_copy_14 : decode cX2_copy 14 = .ok (.getfield 15, 3) := by decide +kernel
theorem dX2_copy_17 : decode cX2_copy 17 = .ok (.iconst 0, 1) := by decide +kernel
theorem dX2_copy_18 : decode cX2_copy 18 = .ok (.bipush 12, 2) := by decide +kernel
theorem dX2_copy_20 : decode cX2_copy 20 = .ok (.invokestatic 31, 3) := by decide +kernel
theorem dX2_copy_23 : decode cX2_copy 23 = .ok (.aload_n 1, 1) := by decide +kernel
theorem dX2_copy_24 : decode cX2_copy 24 = .ok (.getfield 19, 3) := by decide +kernel
theorem dX2_copy_27 : decode cX2_copy 27 = .ok (.iconst 0, 1) := by decide +kernel
theorem dX2_copy_28 : decode cX2_copy 28 = .ok (.aload_n 0, 1) := by decide +kernel
theorem dX2_copy_29 : decode cX2_copy 29 = .ok (.getfield 19, 3) := by decide +kernel
theorem dX2_copy_32 : decode cX2_copy 32 = .ok (.iconst 0, 1) := by decide +kernel
theorem dX2_copy_33 : decode cX2_copy 33 = .ok (.bipush 12, 2) := by decide +kernel
theorem dX2_copy_35 : decode cX2_copy 35 = .ok (.invokestatic 31, 3) := by decide +kernel
theorem dX2_copy_38 : decode cX2_copy 38 = .ok (.aload_n 1, 1) := by decide +kernel
theorem dX2_copy_39 : decode cX2_copy 39 = .ok (.getfield 22, 3) := by decide +kernel
theorem dX2_copy_42 : decode cX2_copy 42 = .ok (.iconst 0, 1) := by decide +kernel
theorem dX2_copy_43 : decode cX2_copy 43 = .ok (.aload_n 0, 1) := by decide +kernel
theorem dX2_copy_44 : decode cX2_copy 44 = .ok (.getfield 22, 3) := by decide +kernel
theorem dX2_copy_47 : decode cX2_copy 47 = .ok (.iconst 0, 1) := by decide +kernel
theorem dX2_copy_48 : decode cX2_copy 48 = .ok (.bipush 12, 2) := by decide +kernel
theorem dX2_copy_50 : decode cX2_copy 50 = .ok (.invokestatic 31, 3) := by decide +kernel
theorem dX2_copy_53 : decode cX2_copy 53 = .ok (.aload_n 1, 1) := by decide +kernel
theorem dX2_copy_54 : decode cX2_copy 54 = .ok (.getfield 25, 3) := by decide +kernel
theorem dX2_copy_57 : decode cX2_copy 57 = .ok (.iconst 0, 1) := by decide +kernel
theorem dX2_copy_58 : decode cX2_copy 58 = .ok (.aload_n 0, 1) := by decide +kernel
theorem dX2_copy_59 : decode cX2_copy 59 = .ok (.getfield 25, 3) := by decide +kernel
theorem dX2_copy_62 : decode cX2_copy 62 = .ok (.iconst 0, 1) := by decide +kernel
theorem dX2_copy_63 : decode cX2_copy 63 = .ok (.bipush 12, 2) := by decide +kernel
theorem dX2_copy_65 : decode cX2_copy 65 = .ok (.invokestatic 31, 3) := by decide +kernel
theorem dX2_copy_68 : decode cX2_copy 68 = .ok (.aload_n 1, 1) := by decide +kernel
theorem dX2_copy_69 : decode cX2_copy 69 = .ok (.getfield 28, 3) := by decide +kernel
theorem dX2_copy_72 : decode cX2_copy 72 = .ok (.iconst 0, 1) := by decide +kernel
theorem dX2_copy_73 : decode cX2_copy 73 = .ok (.aload_n 0, 1) := by decide +kernel
theorem dX2_copy_74 : decode cX2_copy 74 = .ok (.getfield 28, 3) := by decide +kernel
theorem dX2_copy_77 : decode cX2_copy 77 = .ok (.iconst 0, 1) := by decide +kernel
theorem dX2_copy_78 : decode cX2_copy 78 = .ok (.bipush 12, 2) := by decide +kernel
theorem dX2_copy_80 : decode cX2_copy 80 = .ok (.invokestatic 31, 3) := by decide +kernel
theorem dX2_copy_83 : decode cX2_copy 83 = .ok (.return_, 1) := by decide +kernel
theorem dX2_addRow_0 : decode cX2_addRow 0 = .ok (.aload_n 0, 1) := by decide +kernel
theorem dX2_addRow_1 : decode cX2_addRow 1 = .ok (.getfield 9, 3) := by decide +kernel
theorem dX2_addRow_4 : decode cX2_addRow 4 = .ok (.istore 6, 2) := by decide +kernel
theorem dX2_addRow_6 : decode cX2_addRow 6 = .ok (.aload_n 0, 1) := by decide +kernel
theorem dX2_addRow_7 : decode cX2_addRow 7 = .ok (.getfield 15, 3) := by decide +kernel
theorem dX2_addRow_10 : decode cX2_addRow 10 = .ok (.iload 6, 2) := by decide +kernel
theorem dX2_addRow_12 : decode cX2_addRow 12 = .ok (.iload_n 1, 1) := by decide +kernel
theorem dX2_addRow_13 : decode cX2_addRow 13 = .ok (.iastore, 1) := by decide +kernel
theorem dX2_addRow_14 : decode cX2_addRow 14 = .ok (.aload_n 0, 1) := by decide +kernel
theorem dX2_addRow_15 : decode cX2_addRow 15 = .ok (.getfield 19, 3) := by decide +kernel
theorem dX2_addRow_18 : decode cX2_addRow 18 = .ok (.iload 6, 2) := by decide +kernel
theorem dX2_addRow_20 : decode cX2_addRow 20 = .ok (.iload_n 2, 1) := by decide +kernel
theorem dX2_addRow_21 : decode cX2_addRow 21 = .ok (.iastore, 1) := by decide +kernel
theorem dX2_addRow_22 : decode cX2_addRow 22 = .ok (.aload_n 0, 1) := by decide +kernel
theorem dX2_addRow_23 : decode cX2_addRow 23 = .ok (.getfield 22, 3) := by decide +kernel
theorem dX2_addRow_26 : decode cX2_addRow 26 = .ok (.iload 6, 2) := by decide +kernel
theorem dX2_addRow_28 : decode cX2_addRow 28 = .ok (.iload_n 3, 1) := by decide +kernel
theorem dX2_addRow_29 : decode cX2_addRow 29 = .ok (.iastore, 1) := by decide +kernel
theorem dX2_addRow_30 : decode cX2_addRow 30 = .ok (.aload_n 0, 1) := by decide +kernel
theorem dX2_addRow_31 : decode cX2_addRow 31 = .ok (.getfield 25, 3) := by decide +kernel
theorem dX2_addRow_34 : decode cX2_addRow 34 = .ok (.iload 6, 2) := by decide +kernel
theorem dX2_addRow_36 : decode cX2_addRow 36 = .ok (.iload 4, 2) := by decide +kernel
theorem dX2_addRow_38 : decode cX2_addRow 38 = .ok (.iastore, 1) := by decide +kernel
theorem dX2_addRow_39 : decode cX2_addRow 39 = .ok (.aload_n 0, 1) := by decide +kernel
theorem dX2_addRow_40 : decode cX2_addRow 40 = .ok (.getfield 28, 3) := by decide +kernel
theorem dX2_addRow_43 : decode cX2_addRow 43 = .ok (.iload 6, 2) := by decide +kernel
theorem dX2_addRow_45 : decode cX2_addRow 45 = .ok (.iload 5, 2) := by decide +kernel
theorem dX2_addRow_47 : decode cX2_addRow 47 = .ok (.iastore, 1) := by decide +kernel
theorem dX2_addRow_48 : decode cX2_addRow 48 = .ok (.aload_n 0, 1) := by decide +kernel
theorem dX2_addRow_49 : decode cX2_addRow 49 = .ok (.dup, 1) := by decide +kernel
theorem dX2_addRow_50 : decode cX2_addRow 50 = .ok (.getfield 9, 3) := by decide +kernel
theorem dX2_addRow_53 : decode cX2_addRow 53 = .ok (.iconst 1, 1) := by decide +kernel
theorem dX2_addRow_54 : decode cX2_addRow 54 = .ok (.iadd, 1) := by decide +kernel
theorem dX2_addRow_55 : decode cX2_addRow 55 = .ok (.putfield 9, 3) := by decide +kernel
theorem dX2_addRow_58 : decode cX2_addRow 58 = .ok (.iload 6, 2) := by decide +kernel
theorem dX2_addRow_60 : decode cX2_addRow 60 = .ok (.ireturn, 1) := by decide +kernel
theorem dX2_remove_0 : decode cX2_remove 0 = .ok (.aload_n 0, 1) := by decide +kernel
theorem dX2_remove_1 : decode cX2_remove 1 = .ok (.dup, 1) := by decide +kernel
theorem dX2_remove_2 : decode cX2_remove 2 = .ok (.getfield 9, 3) := by decide +kernel
theorem dX2_remove_5 : decode cX2_remove 5 = .ok (.iconst 1, 1) := by decide +kernel
theorem dX2_remove_6 : decode cX2_remove 6 = .ok (.isub, 1) := by decide +kernel
theorem dX2_remove_7 : decode cX2_remove 7 = .ok (.putfield 9, 3) := by decide +kernel
theorem dX2_remove_10 : decode cX2_remove 10 = .ok (.iload_n 1, 1) := by decide +kernel
theorem dX2_remove_11 : decode cX2_remove 11 = .ok (.istore_n 2, 1) := by decide +kernel
theorem dX2_remove_12 : decode cX2_remove 12 = .ok (.iload_n 2, 1) := by decide +kernel
theorem dX2_remove_13 : decode cX2_remove 13 = .ok (.aload_n 0, 1) := by decide +kernel
theorem dX2_remove_14 : decode cX2_remove 14 = .ok (.getfield 9, 3) := by decide +kernel
theorem dX2_remove_17 : decode cX2_remove 17 = .ok (.if_icmp .ge 79, 3) := by decide +kernel
theorem dX2_remove_20 : decode cX2_remove 20 = .ok (.aload_n 0, 1) := by decide +kernel
theorem dX2_remove_21 : decode cX2_remove 21 = .ok (.getfield 15, 3) := by decide +kernel
theorem dX2_remove_24 : decode cX2_remove 24 = .ok (.iload_n 2, 1) := by decide +kernel
theorem dX2_remove_25 : decode cX2_remove 25 = .ok (.aload_n 0, 1) := by decide +kernel
theorem dX2_remove_26 : decode cX2_remove 26 = .ok (.getfield 15, 3) := by decide +kernel
theorem dX2_remove_29 : decode cX2_remove 29 = .ok (.iload_n 2, 1) := by decide +kernel
theorem dX2_remove_30 : decode cX2_remove 30 = .ok (.iconst 1, 1) := by decide +kernel
theorem dX2_remove_31 : decode cX2_remove 31 = .ok (.iadd, 1) := by decide +kernel
theorem dX2_remove_32 : decode cX2_remove 32 = .ok (.iaload, 1) := by decide +kernel
theorem dX2_remove_33 : decode cX2_remove 33 = .ok (.iastore, 1) := by decide +kernel
theorem dX2_remove_34 : decode cX2_remove 34 = .ok (.aload_n 0, 1) := by decide +kernel
theorem dX2_remove_35 : decode cX2_remove 35 = .ok (.getfield 19, 3) := by decide +kernel
theorem dX2_remove_38 : decode cX2_remove 38 = .ok (.iload_n 2, 1) := by decide +kernel
theorem dX2_remove_39 : decode cX2_remove 39 = .ok (.aload_n 0, 1) := by decide +kernel
theorem dX2_remove_40 : decode cX2_remove 40 = .ok (.getfield 19, 3) := by decide +kernel
theorem dX2_remove_43 : decode cX2_remove 43 = .ok (.iload_n 2, 1) := by decide +kernel
theorem dX2_remove_44 : decode cX2_remove 44 = .ok (.iconst 1, 1) := by decide +kernel
theorem dX2_remove_45 : decode cX2_remove 45 = .ok (.iadd, 1) := by decide +kernel
theorem dX2_remove_46 : decode cX2_remove 46 = .ok (.iaload, 1) := by decide +kernel
theorem dX2_remove_47 : decode cX2_remove 47 = .ok (.iastore, 1) := by decide +kernel
theorem dX2_remove_48 : decode cX2_remove 48 = .ok (.aload_n 0, 1) := by decide +kernel
theorem dX2_remove_49 : decode cX2_remove 49 = .ok (.getfield 22, 3) := by decide +kernel
theorem dX2_remove_52 : decode cX2_remove 52 = .ok (.iload_n 2, 1) := by decide +kernel
theorem dX2_remove_53 : decode cX2_remove 53 = .ok (.aload_n 0, 1) := by decide +kernel
theorem dX2_remove_54 : decode cX2_remove 54 = .ok (.getfield 22, 3) := by decide +kernel
theorem dX2_remove_57 : decode cX2_remove 57 = .ok (.iload_n 2, 1) := by decide +kernel
theorem dX2_remove_58 : decode cX2_remove 58 = .ok (.iconst 1, 1) := by decide +kernel
theorem dX2_remove_59 : decode cX2_remove 59 = .ok (.iadd, 1) := by decide +kernel
theorem dX2_remove_60 : decode cX2_remove 60 = .ok (.iaload, 1) := by decide +kernel
theorem dX2_remove_61 : decode cX2_remove 61 = .ok (.iastore, 1) := by decide +kernel
theorem dX2_remove_62 : decode cX2_remove 62 = .ok (.aload_n 0, 1) := by decide +kernel
theorem dX2_remove_63 : decode cX2_remove 63 = .ok (.getfield 25, 3) := by decide +kernel
theorem dX2_remove_66 : decode cX2_remove 66 = .ok (.iload_n 2, 1) := by decide +kernel
theorem dX2_remove_67 : decode cX2_remove 67 = .ok (.aload_n 0, 1) := by decide +kernel
theorem dX2_remove_68 : decode cX2_remove 68 = .ok (.getfield 25, 3) := by decide +kernel
theorem dX2_remove_71 : decode cX2_remove 71 = .ok (.iload_n 2, 1) := by decide +kernel
theorem dX2_remove_72 : decode cX2_remove 72 = .ok (.iconst 1, 1) := by decide +kernel
theorem dX2_remove_73 : decode cX2_remove 73 = .ok (.iadd, 1) := by decide +kernel
theorem dX2_remove_74 : decode cX2_remove 74 = .ok (.iaload, 1) := by decide +kernel
theorem dX2_remove_75 : decode cX2_remove 75 = .ok (.iastore, 1) := by decide +kernel
theorem dX2_remove_76 : decode cX2_remove 76 = .ok (.aload_n 0, 1) := by decide +kernel
theorem dX2_remove_77 : decode cX2_remove 77 = .ok (.getfield 28, 3) := by decide +kernel
theorem dX2_remove_80 : decode cX2_remove 80 = .ok (.iload_n 2, 1) := by decide +kernel
theorem dX2_remove_81 : decode cX2_remove 81 = .ok (.aload_n 0, 1) := by decide +kernel
theorem dX2_remove_82 : decode cX2_remove 82 = .ok (.getfield 28, 3) := by decide +kernel
theorem dX2_remove_85 : decode cX2_remove 85 = .ok (.iload_n 2, 1) := by decide +kernel
theorem dX2_remove_86 : decode cX2_remove 86 = .ok (.iconst 1, 1) := by decide +kernel
theorem dX2_remove_87 : decode cX2_remove 87 = .ok (.iadd, 1) := by decide +kernel
theorem dX2_remove_88 : decode cX2_remove 88 = .ok (.iaload, 1) := by decide +kernel
theorem dX2_remove_89 : decode cX2_remove 89 = .ok (.iastore, 1) := by decide +kernel
theorem dX2_remove_90 : decode cX2_remove 90 = .ok (.iinc 2 1, 3) := by decide +kernel
theorem dX2_remove_93 : decode cX2_remove 93 = .ok (.goto (-81), 3) := by decide +kernel
theorem dX2_remove_96 : decode cX2_remove 96 = .ok (.return_, 1) := by decide +kernel
theorem dX2_about_0 : decode cX2_about 0 = .ok (.iload_n 2, 1) := by decide +kernel
theorem dX2_about_1 : decode cX2_about 1 = .ok (.tableswitch 59 0 3 #[31, 38, 45, 52], 31) := by decide +kernel
theorem dX2_about_32 : decode cX2_about 32 = .ok (.aload_n 0, 1) := by decide +kernel
theorem dX2_about_33 : decode cX2_about 33 = .ok (.getfield 15, 3) := by decide +kernel
theorem dX2_about_36 : decode cX2_about 36 = .ok (.iload_n 1, 1) := by decide +kernel
theorem dX2_about_37 : decode cX2_about 37 = .ok (.iaload, 1) := by decide +kernel
theorem dX2_about_38 : decode cX2_about 38 = .ok (.ireturn, 1) := by decide +kernel
theorem dX2_about_39 : decode cX2_about 39 = .ok (.aload_n 0, 1) := by decide +kernel
theorem dX2_about_40 : decode cX2_about 40 = .ok (.getfield 19, 3) := by decide +kernel
theorem dX2_about_43 : decode cX2_about 43 = .ok (.iload_n 1, 1) := by decide +kernel
theorem dX2_about_44 : decode cX2_about 44 = .ok (.iaload, 1) := by decide +kernel
theorem dX2_about_45 : decode cX2_about 45 = .ok (.ireturn, 1) := by decide +kernel
theorem dX2_about_46 : decode cX2_about 46 = .ok (.aload_n 0, 1) := by decide +kernel
theorem dX2_about_47 : decode cX2_about 47 = .ok (.getfield 22, 3) := by decide +kernel
theorem dX2_about_50 : decode cX2_about 50 = .ok (.iload_n 1, 1) := by decide +kernel
theorem dX2_about_51 : decode cX2_about 51 = .ok (.iaload, 1) := by decide +kernel
theorem dX2_about_52 : decode cX2_about 52 = .ok (.ireturn, 1) := by decide +kernel
theorem dX2_about_53 : decode cX2_about 53 = .ok (.aload_n 0, 1) := by decide +kernel
theorem dX2_about_54 : decode cX2_about 54 = .ok (.getfield 25, 3) := by decide +kernel
theorem dX2_about_57 : decode cX2_about 57 = .ok (.iload_n 1, 1) := by decide +kernel
theorem dX2_about_58 : decode cX2_about 58 = .ok (.iaload, 1) := by decide +kernel
theorem dX2_about_59 : decode cX2_about 59 = .ok (.ireturn, 1) := by decide +kernel
theorem dX2_about_60 : decode cX2_about 60 = .ok (.aload_n 0, 1) := by decide +kernel
theorem dX2_about_61 : decode cX2_about 61 = .ok (.getfield 28, 3) := by decide +kernel
theorem dX2_about_64 : decode cX2_about 64 = .ok (.iload_n 1, 1) := by decide +kernel
theorem dX2_about_65 : decode cX2_about 65 = .ok (.iaload, 1) := by decide +kernel
theorem dX2_about_66 : decode cX2_about 66 = .ok (.ireturn, 1) := by decide +kernel
theorem dX2_isActive_0 : decode cX2_isActive 0 = .ok (.aload_n 0, 1) := by decide +kernel
theorem dX2_isActive_1 : decode cX2_isActive 1 = .ok (.getfield 19, 3) := by decide +kernel
theorem dX2_isActive_4 : decode cX2_isActive 4 = .ok (.iload_n 1, 1) := by decide +kernel
theorem dX2_isActive_5 : decode cX2_isActive 5 = .ok (.iaload, 1) := by decide +kernel
theorem dX2_isActive_6 : decode cX2_isActive 6 = .ok (.iload_n 2, 1) := by decide +kernel
theorem dX2_isActive_7 : decode cX2_isActive 7 = .ok (.if_icmp .ne 27, 3) := by decide +kernel
theorem dX2_isActive_10 : decode cX2_isActive 10 = .ok (.aload_n 0, 1) := by decide +kernel
theorem dX2_isActive_11 : decode cX2_isActive 11 = .ok (.getfield 22, 3) := by decide +kernel
theorem dX2_isActive_14 : decode cX2_isActive 14 = .ok (.iload_n 1, 1) := by decide +kernel
theorem dX2_isActive_15 : decode cX2_isActive 15 = .ok (.iaload, 1) := by decide +kernel
theorem dX2_isActive_16 : decode cX2_isActive 16 = .ok (.iload_n 3, 1) := by decide +kernel
theorem dX2_isActive_17 : decode cX2_isActive 17 = .ok (.if_icmp .gt 17, 3) := by decide +kernel
theorem dX2_isActive_20 : decode cX2_isActive 20 = .ok (.iload_n 3, 1) := by decide +kernel
theorem dX2_isActive_21 : decode cX2_isActive 21 = .ok (.aload_n 0, 1) := by decide +kernel
theorem dX2_isActive_22 : decode cX2_isActive 22 = .ok (.getfield 25, 3) := by decide +kernel
theorem dX2_isActive_25 : decode cX2_isActive 25 = .ok (.iload_n 1, 1) := by decide +kernel
theorem dX2_isActive_26 : decode cX2_isActive 26 = .ok (.iaload, 1) := by decide +kernel
theorem dX2_isActive_27 : decode cX2_isActive 27 = .ok (.if_icmp .gt 7, 3) := by decide +kernel
theorem dX2_isActive_30 : decode cX2_isActive 30 = .ok (.iconst 1, 1) := by decide +kernel
theorem dX2_isActive_31 : decode cX2_isActive 31 = .ok (.goto 4, 3) := by decide +kernel
theorem dX2_isActive_34 : decode cX2_isActive 34 = .ok (.iconst 0, 1) := by decide +kernel
theorem dX2_isActive_35 : decode cX2_isActive 35 = .ok (.ireturn, 1) := by decide +kernel
theorem dX2_countFor_0 : decode cX2_countFor 0 = .ok (.iconst 0, 1) := by decide +kernel
theorem dX2_countFor_1 : decode cX2_countFor 1 = .ok (.istore_n 2, 1) := by decide +kernel
theorem dX2_countFor_2 : decode cX2_countFor 2 = .ok (.iconst 0, 1) := by decide +kernel
theorem dX2_countFor_3 : decode cX2_countFor 3 = .ok (.istore_n 3, 1) := by decide +kernel
theorem dX2_countFor_4 : decode cX2_countFor 4 = .ok (.iload_n 3, 1) := by decide +kernel
theorem dX2_countFor_5 : decode cX2_countFor 5 = .ok (.aload_n 0, 1) := by decide +kernel
theorem dX2_countFor_6 : decode cX2_countFor 6 = .ok (.getfield 9, 3) := by decide +kernel
theorem dX2_countFor_9 : decode cX2_countFor 9 = .ok (.if_icmp .ge 22, 3) := by decide +kernel
theorem dX2_countFor_12 : decode cX2_countFor 12 = .ok (.aload_n 0, 1) := by decide +kernel
theorem dX2_countFor_13 : decode cX2_countFor 13 = .ok (.getfield 19, 3) := by decide +kernel
theorem dX2_countFor_16 : decode cX2_countFor 16 = .ok (.iload_n 3, 1) := by decide +kernel
theorem dX2_countFor_17 : decode cX2_countFor 17 = .ok (.iaload, 1) := by decide +kernel
theorem dX2_countFor_18 : decode cX2_countFor 18 = .ok (.iload_n 1, 1) := by decide +kernel
theorem dX2_countFor_19 : decode cX2_countFor 19 = .ok (.if_icmp .ne 6, 3) := by decide +kernel
theorem dX2_countFor_22 : decode cX2_countFor 22 = .ok (.iinc 2 1, 3) := by decide +kernel
theorem dX2_countFor_25 : decode cX2_countFor 25 = .ok (.iinc 3 1, 3) := by decide +kernel
theorem dX2_countFor_28 : decode cX2_countFor 28 = .ok (.goto (-24), 3) := by decide +kernel
theorem dX2_countFor_31 : decode cX2_countFor 31 = .ok (.iload_n 2, 1) := by decide +kernel
theorem dX2_countFor_32 : decode cX2_countFor 32 = .ok (.ireturn, 1) := by decide +kernel
set_option maxRecDepth 20000 in
theorem ggX2_activeFeatures_X2_isActive : GoodIn wsX2_activeFeatures wsX2_isActive := goodIn_r _ [7, 8, 9, 10, 11, 12, 13, 14, 15, 16] (by decide +kernel) (by decide +kernel)
set_option maxRecDepth 20000 in
theorem gX2_activeFeatures_X2_isActive : GoodIn wsX2_activeFeatures (wsV RX2 37 RX2 yX2_isActive wsX2_isActive) := goodIn_app (goodIn_of _ (by decide +kernel)) ggX2_activeFeatures_X2_isActive
theorem dX2_activeFeatures_0 : decode cX2_activeFeatures 0 = .ok (.iconst 0, 1) := by decide +kernel
theorem dX2_activeFeatures_1 : decode cX2_activeFeatures 1 = .ok (.istore_n 3, 1) := by decide +kernel
theorem dX2_activeFeatures_2 : decode cX2_activeFeatures 2 = .ok (.iconst 0, 1) := by decide +kernel
theorem dX2_activeFeatures_3 : decode cX2_activeFeatures 3 = .ok (.istore 4, 2) := by decide +kernel
theorem dX2_activeFeatures_5 : decode cX2_activeFeatures 5 = .ok (.iload 4, 2) := by decide +kernel
theorem dX2_activeFeatures_7 : decode cX2_activeFeatures 7 = .ok (.aload_n 0, 1) := by decide +kernel
theorem dX2_activeFeatures_8 : decode cX2_activeFeatures 8 = .ok (.getfield 9, 3) := by decide +kernel
theorem dX2_activeFeatures_11 : decode cX2_activeFeatures 11 = .ok (.if_icmp .ge 32, 3) := by decide +kernel
theorem dX2_activeFeatures_14 : decode cX2_activeFeatures 14 = .ok (.aload_n 0, 1) := by decide +kernel
theorem dX2_activeFeatures_15 : decode cX2_activeFeatures 15 = .ok (.iload 4, 2) := by decide +kernel
theorem dX2_activeFeatures_17 : decode cX2_activeFeatures 17 = .ok (.iload_n 1, 1) := by decide +kernel
theorem dX2_activeFeatures_18 : decode cX2_activeFeatures 18 = .ok (.iload_n 2, 1) := by decide +kernel
theorem dX2_activeFeatures_19 : decode cX2_activeFeatures 19 = .ok (.invokevirtual 37, 3) := by decide +kernel
theorem dX2_activeFeatures_22 : decode cX2_activeFeatures 22 = .ok (.ifCond .eq 15, 3) := by decide +kernel
theorem dX2_activeFeatures_25 : decode cX2_activeFeatures 25 = .ok (.iload_n 3, 1) := by decide +kernel
theorem dX2_activeFeatures_26 : decode cX2_activeFeatures 26 = .ok (.iconst 1, 1) := by decide +kernel
theorem dX2_activeFeatures_27 : decode cX2_activeFeatures 27 = .ok (.aload_n 0, 1) := by decide +kernel
theorem dX2_activeFeatures_28 : decode cX2_activeFeatures 28 = .ok (.getfield 15, 3) := by decide +kernel
theorem dX2_activeFeatures_31 : decode cX2_activeFeatures 31 = .ok (.iload 4, 2) := by decide +kernel
theorem dX2_activeFeatures_33 : decode cX2_activeFeatures 33 = .ok (.iaload, 1) := by decide +kernel
theorem dX2_activeFeatures_34 : decode cX2_activeFeatures 34 = .ok (.ishl, 1) := by decide +kernel
theorem dX2_activeFeatures_35 : decode cX2_activeFeatures 35 = .ok (.ior, 1) := by decide +kernel
theorem dX2_activeFeatures_36 : decode cX2_activeFeatures 36 = .ok (.istore_n 3, 1) := by decide +kernel
theorem dX2_activeFeatures_37 : decode cX2_activeFeatures 37 = .ok (.iinc 4 1, 3) := by decide +kernel
theorem dX2_activeFeatures_40 : decode cX2_activeFeatures 40 = .ok (.goto (-35), 3) := by decide +kernel
theorem dX2_activeFeatures_43 : decode cX2_activeFeatures 43 = .ok (.iload_n 3, 1) := by decide +kernel
theorem dX2_activeFeatures_44 : decode cX2_activeFeatures 44 = .ok (.ireturn, 1) := by decide +kernel
set_option maxRecDepth 20000 in
theorem ggX2_lowestPrice_X2_isActive : GoodIn wsX2_lowestPrice wsX2_isActive := goodIn_r _ [8, 9, 10, 11, 12, 13, 14, 15, 16, 17] (by decide +kernel) (by decide +kernel)
set_option maxRecDepth 20000 in
theorem gX2_lowestPrice_X2_isActive : GoodIn wsX2_lowestPrice (wsV RX2 37 RX2 yX2_isActive wsX2_isActive) := goodIn_app (goodIn_of _ (by decide +kernel)) ggX2_lowestPrice_X2_isActive
theorem dX2_lowestPrice_0 : decode cX2_lowestPrice 0 = .ok (.iconst 0, 1) := by decide +kernel
theorem dX2_lowestPrice_1 : decode cX2_lowestPrice 1 = .ok (.istore 4, 2) := by decide +kernel
theorem dX2_lowestPrice_3 : decode cX2_lowestPrice 3 = .ok (.iconst 0, 1) := by decide +kernel
theorem dX2_lowestPrice_4 : decode cX2_lowestPrice 4 = .ok (.istore 5, 2) := by decide +kernel
theorem dX2_lowestPrice_6 : decode cX2_lowestPrice 6 = .ok (.iload 5, 2) := by decide +kernel
theorem dX2_lowestPrice_8 : decode cX2_lowestPrice 8 = .ok (.aload_n 0, 1) := by decide +kernel
theorem dX2_lowestPrice_9 : decode cX2_lowestPrice 9 = .ok (.getfield 9, 3) := by decide +kernel
theorem dX2_lowestPrice_12 : decode cX2_lowestPrice 12 = .ok (.if_icmp .ge 57, 3) := by decide +kernel
theorem dX2_lowestPrice_15 : decode cX2_lowestPrice 15 = .ok (.aload_n 0, 1) := by decide +kernel
theorem dX2_lowestPrice_16 : decode cX2_lowestPrice 16 = .ok (.getfield 15, 3) := by decide +kernel
theorem dX2_lowestPrice_19 : decode cX2_lowestPrice 19 = .ok (.iload 5, 2) := by decide +kernel
theorem dX2_lowestPrice_21 : decode cX2_lowestPrice 21 = .ok (.iaload, 1) := by decide +kernel
theorem dX2_lowestPrice_22 : decode cX2_lowestPrice 22 = .ok (.iload_n 1, 1) := by decide +kernel
theorem dX2_lowestPrice_23 : decode cX2_lowestPrice 23 = .ok (.if_icmp .ne 40, 3) := by decide +kernel
theorem dX2_lowestPrice_26 : decode cX2_lowestPrice 26 = .ok (.aload_n 0, 1) := by decide +kernel
theorem dX2_lowestPrice_27 : decode cX2_lowestPrice 27 = .ok (.iload 5, 2) := by decide +kernel
theorem dX2_lowestPrice_29 : decode cX2_lowestPrice 29 = .ok (.iload_n 2, 1) := by decide +kernel
theorem dX2_lowestPrice_30 : decode cX2_lowestPrice 30 = .ok (.iload_n 3, 1) := by decide +kernel
theorem dX2_lowestPrice_31 : decode cX2_lowestPrice 31 = .ok (.invokevirtual 37, 3) := by decide +kernel
theorem dX2_lowestPrice_34 : decode cX2_lowestPrice 34 = .ok (.ifCond .eq 29, 3) := by decide +kernel
theorem dX2_lowestPrice_37 : decode cX2_lowestPrice 37 = .ok (.iload 4, 2) := by decide +kernel
theorem dX2_lowestPrice_39 : decode cX2_lowestPrice 39 = .ok (.ifCond .eq 15, 3) := by decide +kernel
theorem dX2_lowestPrice_42 : decode cX2_lowestPrice 42 = .ok (.aload_n 0, 1) := by decide +kernel
theorem dX2_lowestPrice_43 : decode cX2_lowestPrice 43 = .ok (.getfield 28, 3) := by decide +kernel
theorem dX2_lowestPrice_46 : decode cX2_lowestPrice 46 = .ok (.iload 5, 2) := by decide +kernel
theorem dX2_lowestPrice_48 : decode cX2_lowestPrice 48 = .ok (.iaload, 1) := by decide +kernel
theorem dX2_lowestPrice_49 : decode cX2_lowestPrice 49 = .ok (.iload 4, 2) := by decide +kernel
theorem dX2_lowestPrice_51 : decode cX2_lowestPrice 51 = .ok (.if_icmp .ge 12, 3) := by decide +kernel
theorem dX2_lowestPrice_54 : decode cX2_lowestPrice 54 = .ok (.aload_n 0, 1) := by decide +kernel
theorem dX2_lowestPrice_55 : decode cX2_lowestPrice 55 = .ok (.getfield 28, 3) := by decide +kernel
theorem dX2_lowestPrice_58 : decode cX2_lowestPrice 58 = .ok (.iload 5, 2) := by decide +kernel
theorem dX2_lowestPrice_60 : decode cX2_lowestPrice 60 = .ok (.iaload, 1) := by decide +kernel
theorem dX2_lowestPrice_61 : decode cX2_lowestPrice 61 = .ok (.istore 4, 2) := by decide +kernel
theorem dX2_lowestPrice_63 : decode cX2_lowestPrice 63 = .ok (.iinc 5 1, 3) := by decide +kernel
theorem dX2_lowestPrice_66 : decode cX2_lowestPrice 66 = .ok (.goto (-60), 3) := by decide +kernel
theorem dX2_lowestPrice_69 : decode cX2_lowestPrice 69 = .ok (.iload 4, 2) := by decide +kernel
theorem dX2_lowestPrice_71 : decode cX2_lowestPrice 71 = .ok (.ireturn, 1) := by decide +kernel
theorem dX3_init_0 : decode cX3_init 0 = .ok (.aload_n 0, 1) := by decide +kernel
theorem dX3_init_1 : decode cX3_init 1 = .ok (.invokespecial 3, 3) := by decide +kernel
theorem dX3_init_4 : decode cX3_init 4 = .ok (.aload_n 0, 1) := by decide +kernel
theorem dX3_init_5 : decode cX3_init 5 = .ok (.iconst 0, 1) := by decide +kernel
theorem dX3_init_6 : decode cX3_init 6 = .ok (.putfield 9, 3) := by decide +kernel
theorem dX3_init_9 : decode cX3_init 9 = .ok (.aload_n 0, 1) := by decide +kernel
theorem dX3_init_10 : decode cX3_init 10 = .ok (.bipush 10, 2) := by decide +kernel
theorem dX3_init_12 : decode cX3_init 12 = .ok (.newarray .int, 2) := by decide +kernel
theorem dX3_init_14 : decode cX3_init 14 = .ok (.putfield 15, 3) := by decide +kernel
theorem dX3_init_17 : decode cX3_init 17 = .ok (.aload_n 0, 1) := by decide +kernel
theorem dX3_init_18 : decode cX3_init 18 = .ok (.bipush 10, 2) := by decide +kernel
theorem dX3_init_20 : decode cX3_init 20 = .ok (.newarray .int, 2) := by decide +kernel
theorem dX3_init_22 : decode cX3_init 22 = .ok (.putfield 19, 3) := by decide +kernel
theorem dX3_init_25 : decode cX3_init 25 = .ok (.aload_n 0, 1) := by decide +kernel
theorem dX3_init_26 : decode cX3_init 26 = .ok (.bipush 10, 2) := by decide +kernel
theorem dX3_init_28 : decode cX3_init 28 = .ok (.newarray .int, 2) := by decide +kernel
theorem dX3_init_30 : decode cX3_init 30 = .ok (.putfield 22, 3) := by decide +kernel
theorem dX3_init_33 : decode cX3_init 33 = .ok (.aload_n 0, 1) := by decide +kernel
theorem dX3_init_34 : decode cX3_init 34 = .ok (.bipush 10, 2) := by decide +kernel
theorem dX3_init_36 : decode cX3_init 36 = .ok (.newarray .int, 2) := by decide +kernel
theorem dX3_init_38 : decode cX3_init 38 = .ok (.putfield 25, 3) := by decide +kernel
theorem dX3_init_41 : decode cX3_init 41 = .ok (.aload_n 0, 1) := by decide +kernel
theorem dX3_init_42 : decode cX3_init 42 = .ok (.bipush 10, 2) := by decide +kernel
theorem dX3_init_44 : decode cX3_init 44 = .ok (.newarray .int, 2) := by decide +kernel
theorem dX3_init_46 : decode cX3_init 46 = .ok (.putfield 28, 3) := by decide +kernel
theorem dX3_init_49 : decode cX3_init 49 = .ok (.aload_n 0, 1) := by decide +kernel
theorem dX3_init_50 : decode cX3_init 50 = .ok (.bipush 10, 2) := by decide +kernel
theorem dX3_init_52 : decode cX3_init 52 = .ok (.newarray .int, 2) := by decide +kernel
theorem dX3_init_54 : decode cX3_init 54 = .ok (.putfield 31, 3) := by decide +kernel
theorem dX3_init_57 : decode cX3_init 57 = .ok (.return_, 1) := by decide +kernel
theorem dX3_copy_0 : decode cX3_copy 0 = .ok (.aload_n 0, 1) := by decide +kernel
theorem dX3_copy_1 : decode cX3_copy 1 = .ok (.aload_n 1, 1) := by decide +kernel
theorem dX3_copy_2 : decode cX3_copy 2 = .ok (.getfield 9, 3) := by decide +kernel
theorem dX3_copy_5 : decode cX3_copy 5 = .ok (.putfield 9, 3) := by decide +kernel
theorem dX3_copy_8 : decode cX3_copy 8 = .ok (.aload_n 1, 1) := by decide +kernel
theorem dX3_copy_9 : decode cX3_copy 9 = .ok (.getfield 15, 3) := by decide +kernel
theorem dX3_copy_12 : decode cX3_copy 12 = .ok (.iconst 0, 1) := by decide +kernel
theorem dX3_copy_13 : decode cX3_copy 13 = .ok (.aload_n 0, 1) := by decide +kernel
theorem dX3_copy_14 : decode cX3_copy 14 = .ok (.getfield 15, 3) := by decide +kernel
theorem dX3_copy_17 : decode cX3_copy 17 = .ok (.iconst 0, 1) := by decide +kernel
theorem dX3_copy_18 : decode cX3_copy 18 = .ok (.bipush 10, 2) := by decide +kernel
theorem dX3_copy_20 : decode cX3_copy 20 = .ok (.invokestatic 34, 3) := by decide +kernel
theorem dX3_copy_23 : decode cX3_copy 23 = .ok (.aload_n 1, 1) := by decide +kernel
theorem dX3_copy_24 : decode cX3_copy 24 = .ok (.getfield 19, 3) := by decide +kernel
theorem dX3_copy_27 : decode cX3_copy 27 = .ok (.iconst 0, 1) := by decide +kernel
theorem dX3_copy_28 : decode cX3_copy 28 = .ok (.aload_n 0, 1) := by decide +kernel
theorem dX3_copy_29 : decode cX3_copy 29 = .ok (.getfield 19, 3) := by decide +kernel
theorem dX3_copy_32 : decode cX3_copy 32 = .ok (.iconst 0, 1) := by decide +kernel
theorem dX3_copy_33 : decode cX3_copy 33 = .ok (.bipush 10, 2) := by decide +kernel
theorem dX3_copy_35 : decode cX3_copy 35 = .ok (.invokestatic 34, 3) := by decide +kernel
theorem dX3_copy_38 : decode cX3_copy 38 = .ok (.aload_n 1, 1) := by decide +kernel
theorem dX3_copy_39 : decode cX3_copy 39 = .ok (.getfield 22, 3) := by decide +kernel
theorem dX3_copy_42 : decode cX3_copy 42 = .ok (.iconst 0, 1) := by decide +kernel
theorem dX3_copy_43 : decode cX3_copy 43 = .ok (.aload_n 0, 1) := by decide +kernel
theorem dX3_copy_44 : decode cX3_copy 44 = .ok (.getfield 22, 3) := by decide +kernel
theorem dX3_copy_47 : decode cX3_copy 47 = .ok (.iconst 0, 1) := by decide +kernel
theorem dX3_copy_48 : decode cX3_copy 48 = .ok (.bipush 10, 2) := by decide +kernel
theorem dX3_copy_50 : decode cX3_copy 50 = .ok (.invokestatic 34, 3) := by decide +kernel
theorem dX3_copy_53 : decode cX3_copy 53 = .ok (.aload_n 1, 1) := by decide +kernel
theorem dX3_copy_54 : decode cX3_copy 54 = .ok (.getfield 25, 3) := by decide +kernel
theorem dX3_copy_57 : decode cX3_copy 57 = .ok (.iconst 0, 1) := by decide +kernel
theorem dX3_copy_58 : decode cX3_copy 58 = .ok (.aload_n 0, 1) := by decide +kernel
theorem dX3_copy_59 : decode cX3_copy 59 = .ok (.getfield 25, 3) := by decide +kernel
theorem dX3_copy_62 : decode cX3_copy 62 = .ok (.iconst 0, 1) := by decide +kernel
theorem dX3_copy_63 : decode cX3_copy 63 = .ok (.bipush 10, 2) := by decide +kernel
theorem dX3_copy_65 : decode cX3_copy 65 = .ok (.invokestatic 34, 3) := by decide +kernel
theorem dX3_copy_68 : decode cX3_copy 68 = .ok (.aload_n 1, 1) := by decide +kernel
theorem dX3_copy_69 : decode cX3_copy 69 = .ok (.getfield 28, 3) := by decide +kernel
theorem dX3_copy_72 : decode cX3_copy 72 = .ok (.iconst 0, 1) := by decide +kernel
theorem dX3_copy_73 : decode cX3_copy 73 = .ok (.aload_n 0, 1) := by decide +kernel
theorem dX3_copy_74 : decode cX3_copy 74 = .ok (.getfield 28, 3) := by decide +kernel
theorem dX3_copy_77 : decode cX3_copy 77 = .ok (.iconst 0, 1) := by decide +kernel
theorem dX3_copy_78 : decode cX3_copy 78 = .ok (.bipush 10, 2) := by decide +kernel
theorem dX3_copy_80 : decode cX3_copy 80 = .ok (.invokestatic 34, 3) := by decide +kernel
theorem dX3_copy_83 : decode cX3_copy 83 = .ok (.aload_n 1, 1) := by decide +kernel
theorem dX3_copy_84 : decode cX3_copy 84 = .ok (.getfield 31, 3) := by decide +kernel
theorem dX3_copy_87 : decode cX3_copy 87 = .ok (.iconst 0, 1) := by decide +kernel
theorem dX3_copy_88 : decode cX3_copy 88 = .ok (.aload_n 0, 1) := by decide +kernel
theorem dX3_copy_89 : decode cX3_copy 89 = .ok (.getfield 31, 3) := by decide +kernel
theorem dX3_copy_92 : decode cX3_copy 92 = .ok (.iconst 0, 1) := by decide +kernel
theorem dX3_copy_93 : decode cX3_copy 93 = .ok (.bipush 10, 2) := by decide +kernel
theorem dX3_copy_95 : decode cX3_copy 95 = .ok (.invokestatic 34, 3) := by decide +kernel
theorem dX3_copy_98 : decode cX3_copy 98 = .ok (.return_, 1) := by decide +kernel
set_option maxRecDepth 20000 in
theorem ggX3_addRow_X3_setPledge : GoodIn wsX3_addRow wsX3_setPledge := goodIn_r _ [10, 11, 12, 13, 14, 15, 16, 17, 18, 19] (by decide +kernel) (by decide +kernel)
set_option maxRecDepth 20000 in
theorem gX3_addRow_X3_setPledge : GoodIn wsX3_addRow (wsV RX3 40 RX3 yX3_setPledge wsX3_setPledge) := goodIn_app (goodIn_of _ (by decide +kernel)) ggX3_addRow_X3_setPledge
theorem dX3_addRow_0 : decode cX3_addRow 0 = .ok (.aload_n 0, 1) := by decide +kernel
theorem dX3_addRow_1 : decode cX3_addRow 1 = .ok (.getfield 9, 3) := by decide +kernel
theorem dX3_addRow_4 : decode cX3_addRow 4 = .ok (.istore_n 3, 1) := by decide +kernel
theorem dX3_addRow_5 : decode cX3_addRow 5 = .ok (.aload_n 0, 1) := by decide +kernel
theorem dX3_addRow_6 : decode cX3_addRow 6 = .ok (.getfield 15, 3) := by decide +kernel
theorem dX3_addRow_9 : decode cX3_addRow 9 = .ok (.iload_n 3, 1) := by decide +kernel
theorem dX3_addRow_10 : decode cX3_addRow 10 = .ok (.iload_n 1, 1) := by decide +kernel
theorem dX3_addRow_11 : decode cX3_addRow 11 = .ok (.iastore, 1) := by decide +kernel
theorem dX3_addRow_12 : decode cX3_addRow 12 = .ok (.aload_n 0, 1) := by decide +kernel
theorem dX3_addRow_13 : decode cX3_addRow 13 = .ok (.getfield 19, 3) := by decide +kernel
theorem dX3_addRow_16 : decode cX3_addRow 16 = .ok (.iload_n 3, 1) := by decide +kernel
theorem dX3_addRow_17 : decode cX3_addRow 17 = .ok (.iload_n 2, 1) := by decide +kernel
theorem dX3_addRow_18 : decode cX3_addRow 18 = .ok (.iastore, 1) := by decide +kernel
theorem dX3_addRow_19 : decode cX3_addRow 19 = .ok (.aload_n 0, 1) := by decide +kernel
theorem dX3_addRow_20 : decode cX3_addRow 20 = .ok (.iload_n 3, 1) := by decide +kernel
theorem dX3_addRow_21 : decode cX3_addRow 21 = .ok (.iconst (-1), 1) := by decide +kernel
theorem dX3_addRow_22 : decode cX3_addRow 22 = .ok (.iconst (-1), 1) := by decide +kernel
theorem dX3_addRow_23 : decode cX3_addRow 23 = .ok (.invokevirtual 40, 3) := by decide +kernel
theorem dX3_addRow_26 : decode cX3_addRow 26 = .ok (.aload_n 0, 1) := by decide +kernel
theorem dX3_addRow_27 : decode cX3_addRow 27 = .ok (.getfield 28, 3) := by decide +kernel
theorem dX3_addRow_30 : decode cX3_addRow 30 = .ok (.iload_n 3, 1) := by decide +kernel
theorem dX3_addRow_31 : decode cX3_addRow 31 = .ok (.iconst 0, 1) := by decide +kernel
theorem dX3_addRow_32 : decode cX3_addRow 32 = .ok (.iastore, 1) := by decide +kernel
theorem dX3_addRow_33 : decode cX3_addRow 33 = .ok (.aload_n 0, 1) := by decide +kernel
theorem dX3_addRow_34 : decode cX3_addRow 34 = .ok (.getfield 31, 3) := by decide +kernel
theorem dX3_addRow_37 : decode cX3_addRow 37 = .ok (.iload_n 3, 1) := by decide +kernel
theorem dX3_addRow_38 : decode cX3_addRow 38 = .ok (.iconst 0, 1) := by decide +kernel
theorem dX3_addRow_39 : decode cX3_addRow 39 = .ok (.iastore, 1) := by decide +kernel
theorem dX3_addRow_40 : decode cX3_addRow 40 = .ok (.aload_n 0, 1) := by decide +kernel
theorem dX3_addRow_41 : decode cX3_addRow 41 = .ok (.dup, 1) := by decide +kernel
theorem dX3_addRow_42 : decode cX3_addRow 42 = .ok (.getfield 9, 3) := by decide +kernel
theorem dX3_addRow_45 : decode cX3_addRow 45 = .ok (.iconst 1, 1) := by decide +kernel
theorem dX3_addRow_46 : decode cX3_addRow 46 = .ok (.iadd, 1) := by decide +kernel
theorem dX3_addRow_47 : decode cX3_addRow 47 = .ok (.putfield 9, 3) := by decide +kernel
theorem dX3_addRow_50 : decode cX3_addRow 50 = .ok (.iload_n 3, 1) := by decide +kernel
theorem dX3_addRow_51 : decode cX3_addRow 51 = .ok (.ireturn, 1) := by decide +kernel
theorem dX3_setPledge_0 : decode cX3_setPledge 0 = .ok (.aload_n 0, 1) := by decide +kernel
theorem dX3_setPledge_1 : decode cX3_setPledge 1 = .ok (.getfield 22, 3) := by decide +kernel
theorem dX3_setPledge_4 : decode cX3_setPledge 4 = .ok (.iload_n 1, 1) := by decide +kernel
theorem dX3_setPledge_5 : decode cX3_setPledge 5 = .ok (.iload_n 2, 1) := by decide +kernel
theorem dX3_setPledge_6 : decode cX3_setPledge 6 = .ok (.iastore, 1) := by decide +kernel
theorem dX3_setPledge_7 : decode cX3_setPledge 7 = .ok (.aload_n 0, 1) := by decide +kernel
theorem dX3_setPledge_8 : decode cX3_setPledge 8 = .ok (.getfield 25, 3) := by decide +kernel
theorem dX3_setPledge_11 : decode cX3_setPledge 11 = .ok (.iload_n 1, 1) := by decide +kernel
theorem dX3_setPledge_12 : decode cX3_setPledge 12 = .ok (.iload_n 3, 1) := by decide +kernel
theorem dX3_setPledge_13 : decode cX3_setPledge 13 = .ok (.iastore, 1) := by decide +kernel
theorem dX3_setPledge_14 : decode cX3_setPledge 14 = .ok (.return_, 1) := by decide +kernel
theorem dX3_isPledged_0 : decode cX3_isPledged 0 = .ok (.aload_n 0, 1) := by decide +kernel
theorem dX3_isPledged_1 : decode cX3_isPledged 1 = .ok (.getfield 22, 3) := by decide +kernel
theorem dX3_isPledged_4 : decode cX3_isPledged 4 = .ok (.iload_n 1, 1) := by decide +kernel
theorem dX3_isPledged_5 : decode cX3_isPledged 5 = .ok (.iaload, 1) := by decide +kernel
theorem dX3_isPledged_6 : decode cX3_isPledged 6 = .ok (.iconst (-1), 1) := by decide +kernel
theorem dX3_isPledged_7 : decode cX3_isPledged 7 = .ok (.if_icmp .eq 7, 3) := by decide +kernel
theorem dX3_isPledged_10 : decode cX3_isPledged 10 = .ok (.iconst 1, 1) := by decide +kernel
theorem dX3_isPledged_11 : decode cX3_isPledged 11 = .ok (.goto 4, 3) := by decide +kernel
theorem dX3_isPledged_14 : decode cX3_isPledged 14 = .ok (.iconst 0, 1) := by decide +kernel
theorem dX3_isPledged_15 : decode cX3_isPledged 15 = .ok (.ireturn, 1) := by decide +kernel
theorem dX3_letSlip_0 : decode cX3_letSlip 0 = .ok (.aload_n 0, 1) := by decide +kernel
theorem dX3_letSlip_1 : decode cX3_letSlip 1 = .ok (.getfield 25, 3) := by decide +kernel
theorem dX3_letSlip_4 : decode cX3_letSlip 4 = .ok (.iload_n 1, 1) := by decide +kernel
theorem dX3_letSlip_5 : decode cX3_letSlip 5 = .ok (.dup2, 1) := by decide +kernel
theorem dX3_letSlip_6 : decode cX3_letSlip 6 = .ok (.iaload, 1) := by decide +kernel
theorem dX3_letSlip_7 : decode cX3_letSlip 7 = .ok (.iload_n 2, 1) := by decide +kernel
theorem dX3_letSlip_8 : decode cX3_letSlip 8 = .ok (.iadd, 1) := by decide +kernel
theorem dX3_letSlip_9 : decode cX3_letSlip 9 = .ok (.iastore, 1) := by decide +kernel
theorem dX3_letSlip_10 : decode cX3_letSlip 10 = .ok (.aload_n 0, 1) := by decide +kernel
theorem dX3_letSlip_11 : decode cX3_letSlip 11 = .ok (.getfield 28, 3) := by decide +kernel
theorem dX3_letSlip_14 : decode cX3_letSlip 14 = .ok (.iload_n 1, 1) := by decide +kernel
theorem dX3_letSlip_15 : decode cX3_letSlip 15 = .ok (.dup2, 1) := by decide +kernel
theorem dX3_letSlip_16 : decode cX3_letSlip 16 = .ok (.iaload, 1) := by decide +kernel
theorem dX3_letSlip_17 : decode cX3_letSlip 17 = .ok (.iconst 1, 1) := by decide +kernel
theorem dX3_letSlip_18 : decode cX3_letSlip 18 = .ok (.iadd, 1) := by decide +kernel
theorem dX3_letSlip_19 : decode cX3_letSlip 19 = .ok (.iastore, 1) := by decide +kernel
theorem dX3_letSlip_20 : decode cX3_letSlip 20 = .ok (.aload_n 0, 1) := by decide +kernel
theorem dX3_letSlip_21 : decode cX3_letSlip 21 = .ok (.getfield 31, 3) := by decide +kernel
theorem dX3_letSlip_24 : decode cX3_letSlip 24 = .ok (.iload_n 1, 1) := by decide +kernel
theorem dX3_letSlip_25 : decode cX3_letSlip 25 = .ok (.dup2, 1) := by decide +kernel
theorem dX3_letSlip_26 : decode cX3_letSlip 26 = .ok (.iaload, 1) := by decide +kernel
theorem dX3_letSlip_27 : decode cX3_letSlip 27 = .ok (.iload_n 2, 1) := by decide +kernel
theorem dX3_letSlip_28 : decode cX3_letSlip 28 = .ok (.iadd, 1) := by decide +kernel
theorem dX3_letSlip_29 : decode cX3_letSlip 29 = .ok (.iastore, 1) := by decide +kernel
theorem dX3_letSlip_30 : decode cX3_letSlip 30 = .ok (.return_, 1) := by decide +kernel
set_option maxRecDepth 20000 in
theorem ggX3_placeOn_X3_isPledged : GoodIn wsX3_placeOn wsX3_isPledged := goodIn_r _ [8, 2, 9, 10, 11, 12, 13, 14, 15] (by decide +kernel) (by decide +kernel)
set_option maxRecDepth 20000 in
theorem gX3_placeOn_X3_isPledged : GoodIn wsX3_placeOn (wsV RX3 44 RX3 yX3_isPledged wsX3_isPledged) := goodIn_app (goodIn_of _ (by decide +kernel)) ggX3_placeOn_X3_isPledged
theorem dX3_placeOn_0 : decode cX3_placeOn 0 = .ok (.aload_n 0, 1) := by decide +kernel
theorem dX3_placeOn_1 : decode cX3_placeOn 1 = .ok (.iload_n 1, 1) := by decide +kernel
theorem dX3_placeOn_2 : decode cX3_placeOn 2 = .ok (.invokevirtual 44, 3) := by decide +kernel
theorem dX3_placeOn_5 : decode cX3_placeOn 5 = .ok (.ifCond .eq 22, 3) := by decide +kernel
theorem dX3_placeOn_8 : decode cX3_placeOn 8 = .ok (.aload_n 0, 1) := by decide +kernel
theorem dX3_placeOn_9 : decode cX3_placeOn 9 = .ok (.getfield 25, 3) := by decide +kernel
theorem dX3_placeOn_12 : decode cX3_placeOn 12 = .ok (.iload_n 1, 1) := by decide +kernel
theorem dX3_placeOn_13 : decode cX3_placeOn 13 = .ok (.iaload, 1) := by decide +kernel
theorem dX3_placeOn_14 : decode cX3_placeOn 14 = .ok (.iload_n 2, 1) := by decide +kernel
theorem dX3_placeOn_15 : decode cX3_placeOn 15 = .ok (.if_icmp .gt 12, 3) := by decide +kernel
theorem dX3_placeOn_18 : decode cX3_placeOn 18 = .ok (.aload_n 0, 1) := by decide +kernel
theorem dX3_placeOn_19 : decode cX3_placeOn 19 = .ok (.getfield 22, 3) := by decide +kernel
theorem dX3_placeOn_22 : decode cX3_placeOn 22 = .ok (.iload_n 1, 1) := by decide +kernel
theorem dX3_placeOn_23 : decode cX3_placeOn 23 = .ok (.iaload, 1) := by decide +kernel
theorem dX3_placeOn_24 : decode cX3_placeOn 24 = .ok (.goto 9, 3) := by decide +kernel
theorem dX3_placeOn_27 : decode cX3_placeOn 27 = .ok (.aload_n 0, 1) := by decide +kernel
theorem dX3_placeOn_28 : decode cX3_placeOn 28 = .ok (.getfield 15, 3) := by decide +kernel
theorem dX3_placeOn_31 : decode cX3_placeOn 31 = .ok (.iload_n 1, 1) := by decide +kernel
theorem dX3_placeOn_32 : decode cX3_placeOn 32 = .ok (.iaload, 1) := by decide +kernel
theorem dX3_placeOn_33 : decode cX3_placeOn 33 = .ok (.ireturn, 1) := by decide +kernel
theorem dX3_about_0 : decode cX3_about 0 = .ok (.iload_n 2, 1) := by decide +kernel
theorem dX3_about_1 : decode cX3_about 1 = .ok (.tableswitch 70 0 4 #[35, 42, 49, 56, 63], 35) := by decide +kernel
theorem dX3_about_36 : decode cX3_about 36 = .ok (.aload_n 0, 1) := by decide +kernel
theorem dX3_about_37 : decode cX3_about 37 = .ok (.getfield 15, 3) := by decide +kernel
theorem dX3_about_40 : decode cX3_about 40 = .ok (.iload_n 1, 1) := by decide +kernel
theorem dX3_about_41 : decode cX3_about 41 = .ok (.iaload, 1) := by decide +kernel
theorem dX3_about_42 : decode cX3_about 42 = .ok (.ireturn, 1) := by decide +kernel
theorem dX3_about_43 : decode cX3_about 43 = .ok (.aload_n 0, 1) := by decide +kernel
theorem dX3_about_44 : decode cX3_about 44 = .ok (.getfield 19, 3) := by decide +kernel
theorem dX3_about_47 : decode cX3_about 47 = .ok (.iload_n 1, 1) := by decide +kernel
theorem dX3_about_48 : decode cX3_about 48 = .ok (.iaload, 1) := by decide +kernel
theorem dX3_about_49 : decode cX3_about 49 = .ok (.ireturn, 1) := by decide +kernel
theorem dX3_about_50 : decode cX3_about 50 = .ok (.aload_n 0, 1) := by decide +kernel
theorem dX3_about_51 : decode cX3_about 51 = .ok (.getfield 22, 3) := by decide +kernel
theorem dX3_about_54 : decode cX3_about 54 = .ok (.iload_n 1, 1) := by decide +kernel
theorem dX3_about_55 : decode cX3_about 55 = .ok (.iaload, 1) := by decide +kernel
theorem dX3_about_56 : decode cX3_about 56 = .ok (.ireturn, 1) := by decide +kernel
theorem dX3_about_57 : decode cX3_about 57 = .ok (.aload_n 0, 1) := by decide +kernel
theorem dX3_about_58 : decode cX3_about 58 = .ok (.getfield 25, 3) := by decide +kernel
theorem dX3_about_61 : decode cX3_about 61 = .ok (.iload_n 1, 1) := by decide +kernel
theorem dX3_about_62 : decode cX3_about 62 = .ok (.iaload, 1) := by decide +kernel
theorem dX3_about_63 : decode cX3_about 63 = .ok (.ireturn, 1) := by decide +kernel
theorem dX3_about_64 : decode cX3_about 64 = .ok (.aload_n 0, 1) := by decide +kernel
theorem dX3_about_65 : decode cX3_about 65 = .ok (.getfield 28, 3) := by decide +kernel
theorem dX3_about_68 : decode cX3_about 68 = .ok (.iload_n 1, 1) := by decide +kernel
theorem dX3_about_69 : decode cX3_about 69 = .ok (.iaload, 1) := by decide +kernel
theorem dX3_about_70 : decode cX3_about 70 = .ok (.ireturn, 1) := by decide +kernel
theorem dX3_about_71 : decode cX3_about 71 = .ok (.aload_n 0, 1) := by decide +kernel
theorem dX3_about_72 : decode cX3_about 72 = .ok (.getfield 31, 3) := by decide +kernel
theorem dX3_about_75 : decode cX3_about 75 = .ok (.iload_n 1, 1) := by decide +kernel
theorem dX3_about_76 : decode cX3_about 76 = .ok (.iaload, 1) := by decide +kernel
theorem dX3_about_77 : decode cX3_about 77 = .ok (.ireturn, 1) := by decide +kernel
set_option maxRecDepth 20000 in
theorem ggX3_pledgeCount_X3_isPledged : GoodIn wsX3_pledgeCount wsX3_isPledged := goodIn_r _ [6, 7, 8, 9, 10, 11, 12, 13, 14] (by decide +kernel) (by decide +kernel)
set_option maxRecDepth 20000 in
theorem gX3_pledgeCount_X3_isPledged : GoodIn wsX3_pledgeCount (wsV RX3 44 RX3 yX3_isPledged wsX3_isPledged) := goodIn_app (goodIn_of _ (by decide +kernel)) ggX3_pledgeCount_X3_isPledged
theorem dX3_pledgeCount_0 : decode cX3_pledgeCount 0 = .ok (.iconst 0, 1) := by decide +kernel
theorem dX3_pledgeCount_1 : decode cX3_pledgeCount 1 = .ok (.istore_n 1, 1) := by decide +kernel
theorem dX3_pledgeCount_2 : decode cX3_pledgeCount 2 = .ok (.iconst 0, 1) := by decide +kernel
theorem dX3_pledgeCount_3 : decode cX3_pledgeCount 3 = .ok (.istore_n 2, 1) := by decide +kernel
theorem dX3_pledgeCount_4 : decode cX3_pledgeCount 4 = .ok (.iload_n 2, 1) := by decide +kernel
theorem dX3_pledgeCount_5 : decode cX3_pledgeCount 5 = .ok (.aload_n 0, 1) := by decide +kernel
theorem dX3_pledgeCount_6 : decode cX3_pledgeCount 6 = .ok (.getfield 9, 3) := by decide +kernel
theorem dX3_pledgeCount_9 : decode cX3_pledgeCount 9 = .ok (.if_icmp .ge 20, 3) := by decide +kernel
theorem dX3_pledgeCount_12 : decode cX3_pledgeCount 12 = .ok (.aload_n 0, 1) := by decide +kernel
theorem dX3_pledgeCount_13 : decode cX3_pledgeCount 13 = .ok (.iload_n 2, 1) := by decide +kernel
theorem dX3_pledgeCount_14 : decode cX3_pledgeCount 14 = .ok (.invokevirtual 44, 3) := by decide +kernel
theorem dX3_pledgeCount_17 : decode cX3_pledgeCount 17 = .ok (.ifCond .eq 6, 3) := by decide +kernel
theorem dX3_pledgeCount_20 : decode cX3_pledgeCount 20 = .ok (.iinc 1 1, 3) := by decide +kernel
theorem dX3_pledgeCount_23 : decode cX3_pledgeCount 23 = .ok (.iinc 2 1, 3) := by decide +kernel
theorem dX3_pledgeCount_26 : decode cX3_pledgeCount 26 = .ok (.goto (-22), 3) := by decide +kernel
theorem dX3_pledgeCount_29 : decode cX3_pledgeCount 29 = .ok (.iload_n 1, 1) := by decide +kernel
theorem dX3_pledgeCount_30 : decode cX3_pledgeCount 30 = .ok (.ireturn, 1) := by decide +kernel
set_option maxRecDepth 20000 in
theorem ggX3_useCount_J6_bitCount_0f7a4 : GoodIn wsX3_useCount wsJ6_bitCount_0f7a4 := goodIn_r _ [6, 7, 8, 9] (by decide +kernel) (by decide +kernel)
set_option maxRecDepth 20000 in
theorem gX3_useCount_J6_bitCount_0f7a4 : GoodIn wsX3_useCount (va_wsS RX3 48 yJ6_bitCount_0f7a4 wsJ6_bitCount_0f7a4) := goodIn_app (goodIn_of _ (by decide +kernel)) ggX3_useCount_J6_bitCount_0f7a4
theorem dX3_useCount_0 : decode cX3_useCount 0 = .ok (.iconst 0, 1) := by decide +kernel
theorem dX3_useCount_1 : decode cX3_useCount 1 = .ok (.istore_n 1, 1) := by decide +kernel
theorem dX3_useCount_2 : decode cX3_useCount 2 = .ok (.iconst 0, 1) := by decide +kernel
theorem dX3_useCount_3 : decode cX3_useCount 3 = .ok (.istore_n 2, 1) := by decide +kernel
theorem dX3_useCount_4 : decode cX3_useCount 4 = .ok (.iload_n 2, 1) := by decide +kernel
theorem dX3_useCount_5 : decode cX3_useCount 5 = .ok (.aload_n 0, 1) := by decide +kernel
theorem dX3_useCount_6 : decode cX3_useCount 6 = .ok (.getfield 9, 3) := by decide +kernel
theorem dX3_useCount_9 : decode cX3_useCount 9 = .ok (.if_icmp .ge 21, 3) := by decide +kernel
theorem dX3_useCount_12 : decode cX3_useCount 12 = .ok (.iload_n 1, 1) := by decide +kernel
theorem dX3_useCount_13 : decode cX3_useCount 13 = .ok (.aload_n 0, 1) := by decide +kernel
theorem dX3_useCount_14 : decode cX3_useCount 14 = .ok (.getfield 19, 3) := by decide +kernel
theorem dX3_useCount_17 : decode cX3_useCount 17 = .ok (.iload_n 2, 1) := by decide +kernel
theorem dX3_useCount_18 : decode cX3_useCount 18 = .ok (.iaload, 1) := by decide +kernel
theorem dX3_useCount_19 : decode cX3_useCount 19 = .ok (.invokestatic 48, 3) := by decide +kernel
theorem dX3_useCount_22 : decode cX3_useCount 22 = .ok (.iadd, 1) := by decide +kernel
theorem dX3_useCount_23 : decode cX3_useCount 23 = .ok (.istore_n 1, 1) := by decide +kernel
theorem dX3_useCount_24 : decode cX3_useCount 24 = .ok (.iinc 2 1, 3) := by decide +kernel
theorem dX3_useCount_27 : decode cX3_useCount 27 = .ok (.goto (-23), 3) := by decide +kernel
theorem dX3_useCount_30 : decode cX3_useCount 30 = .ok (.iload_n 1, 1) := by decide +kernel
theorem dX3_useCount_31 : decode cX3_useCount 31 = .ok (.ireturn, 1) := by decide +kernel
theorem dX3_slipCount_0 : decode cX3_slipCount 0 = .ok (.iconst 0, 1) := by decide +kernel
theorem dX3_slipCount_1 : decode cX3_slipCount 1 = .ok (.istore_n 1, 1) := by decide +kernel
theorem dX3_slipCount_2 : decode cX3_slipCount 2 = .ok (.iconst 0, 1) := by decide +kernel
theorem dX3_slipCount_3 : decode cX3_slipCount 3 = .ok (.istore_n 2, 1) := by decide +kernel
theorem dX3_slipCount_4 : decode cX3_slipCount 4 = .ok (.iload_n 2, 1) := by decide +kernel
theorem dX3_slipCount_5 : decode cX3_slipCount 5 = .ok (.aload_n 0, 1) := by decide +kernel
theorem dX3_slipCount_6 : decode cX3_slipCount 6 = .ok (.getfield 9, 3) := by decide +kernel
theorem dX3_slipCount_9 : decode cX3_slipCount 9 = .ok (.if_icmp .ge 18, 3) := by decide +kernel
theorem dX3_slipCount_12 : decode cX3_slipCount 12 = .ok (.iload_n 1, 1) := by decide +kernel
theorem dX3_slipCount_13 : decode cX3_slipCount 13 = .ok (.aload_n 0, 1) := by decide +kernel
theorem dX3_slipCount_14 : decode cX3_slipCount 14 = .ok (.getfield 28, 3) := by decide +kernel
theorem dX3_slipCount_17 : decode cX3_slipCount 17 = .ok (.iload_n 2, 1) := by decide +kernel
theorem dX3_slipCount_18 : decode cX3_slipCount 18 = .ok (.iaload, 1) := by decide +kernel
theorem dX3_slipCount_19 : decode cX3_slipCount 19 = .ok (.iadd, 1) := by decide +kernel
theorem dX3_slipCount_20 : decode cX3_slipCount 20 = .ok (.istore_n 1, 1) := by decide +kernel
theorem dX3_slipCount_21 : decode cX3_slipCount 21 = .ok (.iinc 2 1, 3) := by decide +kernel
theorem dX3_slipCount_24 : decode cX3_slipCount 24 = .ok (.goto (-20), 3) := by decide +kernel
theorem dX3_slipCount_27 : decode cX3_slipCount 27 = .ok (.iload_n 1, 1) := by decide +kernel
theorem dX3_slipCount_28 : decode cX3_slipCount 28 = .ok (.ireturn, 1) := by decide +kernel
theorem dX4_init_0 : decode cX4_init 0 = .ok (.aload_n 0, 1) := by decide +kernel
theorem dX4_init_1 : decode cX4_init 1 = .ok (.invokespecial 3, 3) := by decide +kernel
theorem dX4_init_4 : decode cX4_init 4 = .ok (.aload_n 0, 1) := by decide +kernel
theorem dX4_init_5 : decode cX4_init 5 = .ok (.iconst 0, 1) := by decide +kernel
theorem dX4_init_6 : decode cX4_init 6 = .ok (.putfield 9, 3) := by decide +kernel
theorem dX4_init_9 : decode cX4_init 9 = .ok (.aload_n 0, 1) := by decide +kernel
theorem dX4_init_10 : decode cX4_init 10 = .ok (.bipush 8, 2) := by decide +kernel
theorem dX4_init_12 : decode cX4_init 12 = .ok (.newarray .int, 2) := by decide +kernel
theorem dX4_init_14 : decode cX4_init 14 = .ok (.putfield 15, 3) := by decide +kernel
theorem dX4_init_17 : decode cX4_init 17 = .ok (.aload_n 0, 1) := by decide +kernel
theorem dX4_init_18 : decode cX4_init 18 = .ok (.bipush 8, 2) := by decide +kernel
theorem dX4_init_20 : decode cX4_init 20 = .ok (.newarray .int, 2) := by decide +kernel
theorem dX4_init_22 : decode cX4_init 22 = .ok (.putfield 19, 3) := by decide +kernel
theorem dX4_init_25 : decode cX4_init 25 = .ok (.aload_n 0, 1) := by decide +kernel
theorem dX4_init_26 : decode cX4_init 26 = .ok (.bipush 8, 2) := by decide +kernel
theorem dX4_init_28 : decode cX4_init 28 = .ok (.newarray .int, 2) := by decide +kernel
theorem dX4_init_30 : decode cX4_init 30 = .ok (.putfield 22, 3) := by decide +kernel
theorem dX4_init_33 : decode cX4_init 33 = .ok (.aload_n 0, 1) := by decide +kernel
theorem dX4_init_34 : decode cX4_init 34 = .ok (.bipush 8, 2) := by decide +kernel
theorem dX4_init_36 : decode cX4_init 36 = .ok (.newarray .int, 2) := by decide +kernel
theorem dX4_init_38 : decode cX4_init 38 = .ok (.putfield 25, 3) := by decide +kernel
theorem dX4_init_41 : decode cX4_init 41 = .ok (.return_, 1) := by decide +kernel
theorem dX4_copy_0 : decode cX4_copy 0 = .ok (.aload_n 0, 1) := by decide +kernel
theorem dX4_copy_1 : decode cX4_copy 1 = .ok (.aload_n 1, 1) := by decide +kernel
theorem dX4_copy_2 : decode cX4_copy 2 = .ok (.getfield 9, 3) := by decide +kernel
theorem dX4_copy_5 : decode cX4_copy 5 = .ok (.putfield 9, 3) := by decide +kernel
theorem dX4_copy_8 : decode cX4_copy 8 = .ok (.aload_n 1, 1) := by decide +kernel
theorem dX4_copy_9 : decode cX4_copy 9 = .ok (.getfield 15, 3) := by decide +kernel
theorem dX4_copy_12 : decode cX4_copy 12 = .ok (.iconst 0, 1) := by decide +kernel
theorem dX4_copy_13 : decode cX4_copy 13 = .ok (.aload_n 0, 1) := by decide +kernel
theorem dX4_copy_14 : decode cX4_copy 14 = .ok (.getfield 15, 3) := by decide +kernel
theorem dX4_copy_17 : decode cX4_copy 17 = .ok (.iconst 0, 1) := by decide +kernel
theorem dX4_copy_18 : decode cX4_copy 18 = .ok (.bipush 8, 2) := by decide +kernel
theorem dX4_copy_20 : decode cX4_copy 20 = .ok (.invokestatic 28, 3) := by decide +kernel
theorem dX4_copy_23 : decode cX4_copy 23 = .ok (.aload_n 1, 1) := by decide +kernel
theorem dX4_copy_24 : decode cX4_copy 24 = .ok (.getfield 19, 3) := by decide +kernel
theorem dX4_copy_27 : decode cX4_copy 27 = .ok (.iconst 0, 1) := by decide +kernel
theorem dX4_copy_28 : decode cX4_copy 28 = .ok (.aload_n 0, 1) := by decide +kernel
theorem dX4_copy_29 : decode cX4_copy 29 = .ok (.getfield 19, 3) := by decide +kernel
theorem dX4_copy_32 : decode cX4_copy 32 = .ok (.iconst 0, 1) := by decide +kernel
theorem dX4_copy_33 : decode cX4_copy 33 = .ok (.bipush 8, 2) := by decide +kernel
theorem dX4_copy_35 : decode cX4_copy 35 = .ok (.invokestatic 28, 3) := by decide +kernel
theorem dX4_copy_38 : decode cX4_copy 38 = .ok (.aload_n 1, 1) := by decide +kernel
theorem dX4_copy_39 : decode cX4_copy 39 = .ok (.getfield 22, 3) := by decide +kernel
theorem dX4_copy_42 : decode cX4_copy 42 = .ok (.iconst 0, 1) := by decide +kernel
theorem dX4_copy_43 : decode cX4_copy 43 = .ok (.aload_n 0, 1) := by decide +kernel
theorem dX4_copy_44 : decode cX4_copy 44 = .ok (.getfield 22, 3) := by decide +kernel
theorem dX4_copy_47 : decode cX4_copy 47 = .ok (.iconst 0, 1) := by decide +kernel
theorem dX4_copy_48 : decode cX4_copy 48 = .ok (.bipush 8, 2) := by decide +kernel
theorem dX4_copy_50 : decode cX4_copy 50 = .ok (.invokestatic 28, 3) := by decide +kernel
theorem dX4_copy_53 : decode cX4_copy 53 = .ok (.aload_n 1, 1) := by decide +kernel
theorem dX4_copy_54 : decode cX4_copy 54 = .ok (.getfield 25, 3) := by decide +kernel
theorem dX4_copy_57 : decode cX4_copy 57 = .ok (.iconst 0, 1) := by decide +kernel
theorem dX4_copy_58 : decode cX4_copy 58 = .ok (.aload_n 0, 1) := by decide +kernel
theorem dX4_copy_59 : decode cX4_copy 59 = .ok (.getfield 25, 3) := by decide +kernel
theorem dX4_copy_62 : decode cX4_copy 62 = .ok (.iconst 0, 1) := by decide +kernel
theorem dX4_copy_63 : decode cX4_copy 63 = .ok (.bipush 8, 2) := by decide +kernel
theorem dX4_copy_65 : decode cX4_copy 65 = .ok (.invokestatic 28, 3) := by decide +kernel
theorem dX4_copy_68 : decode cX4_copy 68 = .ok (.return_, 1) := by decide +kernel
theorem dX4_addRow_0 : decode cX4_addRow 0 = .ok (.aload_n 0, 1) := by decide +kernel
theorem dX4_addRow_1 : decode cX4_addRow 1 = .ok (.getfield 9, 3) := by decide +kernel
theorem dX4_addRow_4 : decode cX4_addRow 4 = .ok (.istore_n 3, 1) := by decide +kernel
theorem dX4_addRow_5 : decode cX4_addRow 5 = .ok (.aload_n 0, 1) := by decide +kernel
theorem dX4_addRow_6 : decode cX4_addRow 6 = .ok (.getfield 15, 3) := by decide +kernel
theorem dX4_addRow_9 : decode cX4_addRow 9 = .ok (.iload_n 3, 1) := by decide +kernel
theorem dX4_addRow_10 : decode cX4_addRow 10 = .ok (.iload_n 1, 1) := by decide +kernel
theorem dX4_addRow_11 : decode cX4_addRow 11 = .ok (.iastore, 1) := by decide +kernel
theorem dX4_addRow_12 : decode cX4_addRow 12 = .ok (.aload_n 0, 1) := by decide +kernel
theorem dX4_addRow_13 : decode cX4_addRow 13 = .ok (.getfield 19, 3) := by decide +kernel
theorem dX4_addRow_16 : decode cX4_addRow 16 = .ok (.iload_n 3, 1) := by decide +kernel
theorem dX4_addRow_17 : decode cX4_addRow 17 = .ok (.iload_n 2, 1) := by decide +kernel
theorem dX4_addRow_18 : decode cX4_addRow 18 = .ok (.iastore, 1) := by decide +kernel
theorem dX4_addRow_19 : decode cX4_addRow 19 = .ok (.aload_n 0, 1) := by decide +kernel
theorem dX4_addRow_20 : decode cX4_addRow 20 = .ok (.getfield 22, 3) := by decide +kernel
theorem dX4_addRow_23 : decode cX4_addRow 23 = .ok (.iload_n 3, 1) := by decide +kernel
theorem dX4_addRow_24 : decode cX4_addRow 24 = .ok (.iconst 0, 1) := by decide +kernel
theorem dX4_addRow_25 : decode cX4_addRow 25 = .ok (.iastore, 1) := by decide +kernel
theorem dX4_addRow_26 : decode cX4_addRow 26 = .ok (.aload_n 0, 1) := by decide +kernel
theorem dX4_addRow_27 : decode cX4_addRow 27 = .ok (.getfield 25, 3) := by decide +kernel
theorem dX4_addRow_30 : decode cX4_addRow 30 = .ok (.iload_n 3, 1) := by decide +kernel
theorem dX4_addRow_31 : decode cX4_addRow 31 = .ok (.iconst 0, 1) := by decide +kernel
theorem dX4_addRow_32 : decode cX4_addRow 32 = .ok (.iastore, 1) := by decide +kernel
theorem dX4_addRow_33 : decode cX4_addRow 33 = .ok (.aload_n 0, 1) := by decide +kernel
theorem dX4_addRow_34 : decode cX4_addRow 34 = .ok (.dup, 1) := by decide +kernel
theorem dX4_addRow_35 : decode cX4_addRow 35 = .ok (.getfield 9, 3) := by decide +kernel
theorem dX4_addRow_38 : decode cX4_addRow 38 = .ok (.iconst 1, 1) := by decide +kernel
theorem dX4_addRow_39 : decode cX4_addRow 39 = .ok (.iadd, 1) := by decide +kernel
theorem dX4_addRow_40 : decode cX4_addRow 40 = .ok (.putfield 9, 3) := by decide +kernel
theorem dX4_addRow_43 : decode cX4_addRow 43 = .ok (.iload_n 3, 1) := by decide +kernel
theorem dX4_addRow_44 : decode cX4_addRow 44 = .ok (.ireturn, 1) := by decide +kernel
theorem dX4_moveEnd_0 : decode cX4_moveEnd 0 = .ok (.aload_n 0, 1) := by decide +kernel
theorem dX4_moveEnd_1 : decode cX4_moveEnd 1 = .ok (.getfield 19, 3) := by decide +kernel
theorem dX4_moveEnd_4 : decode cX4_moveEnd 4 = .ok (.iload_n 1, 1) := by decide +kernel
theorem dX4_moveEnd_5 : decode cX4_moveEnd 5 = .ok (.dup2, 1) := by decide +kernel
theorem dX4_moveEnd_6 : decode cX4_moveEnd 6 = .ok (.iaload, 1) := by decide +kernel
theorem dX4_moveEnd_7 : decode cX4_moveEnd 7 = .ok (.iload_n 2, 1) := by decide +kernel
theorem dX4_moveEnd_8 : decode cX4_moveEnd 8 = .ok (.iadd, 1) := by decide +kernel
theorem dX4_moveEnd_9 : decode cX4_moveEnd 9 = .ok (.iastore, 1) := by decide +kernel
theorem dX4_moveEnd_10 : decode cX4_moveEnd 10 = .ok (.aload_n 0, 1) := by decide +kernel
theorem dX4_moveEnd_11 : decode cX4_moveEnd 11 = .ok (.getfield 22, 3) := by decide +kernel
theorem dX4_moveEnd_14 : decode cX4_moveEnd 14 = .ok (.iload_n 1, 1) := by decide +kernel
theorem dX4_moveEnd_15 : decode cX4_moveEnd 15 = .ok (.dup2, 1) := by decide +kernel
theorem dX4_moveEnd_16 : decode cX4_moveEnd 16 = .ok (.iaload, 1) := by decide +kernel
theorem dX4_moveEnd_17 : decode cX4_moveEnd 17 = .ok (.iload_n 2, 1) := by decide +kernel
theorem dX4_moveEnd_18 : decode cX4_moveEnd 18 = .ok (.iadd, 1) := by decide +kernel
theorem dX4_moveEnd_19 : decode cX4_moveEnd 19 = .ok (.iastore, 1) := by decide +kernel
theorem dX4_moveEnd_20 : decode cX4_moveEnd 20 = .ok (.return_, 1) := by decide +kernel
theorem dX4_isAlive_0 : decode cX4_isAlive 0 = .ok (.iload_n 2, 1) := by decide +kernel
theorem dX4_isAlive_1 : decode cX4_isAlive 1 = .ok (.aload_n 0, 1) := by decide +kernel
theorem dX4_isAlive_2 : decode cX4_isAlive 2 = .ok (.getfield 15, 3) := by decide +kernel
theorem dX4_isAlive_5 : decode cX4_isAlive 5 = .ok (.iload_n 1, 1) := by decide +kernel
theorem dX4_isAlive_6 : decode cX4_isAlive 6 = .ok (.iaload, 1) := by decide +kernel
theorem dX4_isAlive_7 : decode cX4_isAlive 7 = .ok (.if_icmp .lt 17, 3) := by decide +kernel
theorem dX4_isAlive_10 : decode cX4_isAlive 10 = .ok (.iload_n 2, 1) := by decide +kernel
theorem dX4_isAlive_11 : decode cX4_isAlive 11 = .ok (.aload_n 0, 1) := by decide +kernel
theorem dX4_isAlive_12 : decode cX4_isAlive 12 = .ok (.getfield 19, 3) := by decide +kernel
theorem dX4_isAlive_15 : decode cX4_isAlive 15 = .ok (.iload_n 1, 1) := by decide +kernel
theorem dX4_isAlive_16 : decode cX4_isAlive 16 = .ok (.iaload, 1) := by decide +kernel
theorem dX4_isAlive_17 : decode cX4_isAlive 17 = .ok (.if_icmp .ge 7, 3) := by decide +kernel
theorem dX4_isAlive_20 : decode cX4_isAlive 20 = .ok (.iconst 1, 1) := by decide +kernel
theorem dX4_isAlive_21 : decode cX4_isAlive 21 = .ok (.goto 4, 3) := by decide +kernel
theorem dX4_isAlive_24 : decode cX4_isAlive 24 = .ok (.iconst 0, 1) := by decide +kernel
theorem dX4_isAlive_25 : decode cX4_isAlive 25 = .ok (.ireturn, 1) := by decide +kernel
set_option maxRecDepth 20000 in
theorem ggX4_allWith_X5_contains : GoodIn wsX4_allWith wsX5_contains := goodIn_r _ [5] (by decide +kernel) (by decide +kernel)
set_option maxRecDepth 20000 in
theorem gX4_allWith_X5_contains_n34 : GoodIn wsX4_allWith (wsX5_contains) := ggX4_allWith_X5_contains
theorem dX4_allWith_0 : decode cX4_allWith 0 = .ok (.iconst 0, 1) := by decide +kernel
theorem dX4_allWith_1 : decode cX4_allWith 1 = .ok (.istore_n 2, 1) := by decide +kernel
theorem dX4_allWith_2 : decode cX4_allWith 2 = .ok (.iconst 0, 1) := by decide +kernel
theorem dX4_allWith_3 : decode cX4_allWith 3 = .ok (.istore_n 3, 1) := by decide +kernel
theorem dX4_allWith_4 : decode cX4_allWith 4 = .ok (.iload_n 3, 1) := by decide +kernel
theorem dX4_allWith_5 : decode cX4_allWith 5 = .ok (.aload_n 0, 1) := by decide +kernel
theorem dX4_allWith_6 : decode cX4_allWith 6 = .ok (.getfield 9, 3) := by decide +kernel
theorem dX4_allWith_9 : decode cX4_allWith 9 = .ok (.if_icmp .ge 28, 3) := by decide +kernel
theorem dX4_allWith_12 : decode cX4_allWith 12 = .ok (.aload_n 0, 1) := by decide +kernel
theorem dX4_allWith_13 : decode cX4_allWith 13 = .ok (.getfield 25, 3) := by decide +kernel
theorem dX4_allWith_16 : decode cX4_allWith 16 = .ok (.iload_n 3, 1) := by decide +kernel
theorem dX4_allWith_17 : decode cX4_allWith 17 = .ok (.iaload, 1) := by decide +kernel
theorem dX4_allWith_18 : decode cX4_allWith 18 = .ok (.iload_n 1, 1) := by decide +kernel
theorem dX4_allWith_19 : decode cX4_allWith 19 = .ok (.invokestatic 34, 3) := by decide +kernel
theorem dX4_allWith_22 : decode cX4_allWith 22 = .ok (.ifCond .eq 9, 3) := by decide +kernel
theorem dX4_allWith_25 : decode cX4_allWith 25 = .ok (.iload_n 2, 1) := by decide +kernel
theorem dX4_allWith_26 : decode cX4_allWith 26 = .ok (.iconst 1, 1) := by decide +kernel
theorem dX4_allWith_27 : decode cX4_allWith 27 = .ok (.iload_n 3, 1) := by decide +kernel
theorem dX4_allWith_28 : decode cX4_allWith 28 = .ok (.ishl, 1) := by decide +kernel
theorem dX4_allWith_29 : decode cX4_allWith 29 = .ok (.ior, 1) := by decide +kernel
theorem dX4_allWith_30 : decode cX4_allWith 30 = .ok (.istore_n 2, 1) := by decide +kernel
theorem dX4_allWith_31 : decode cX4_allWith 31 = .ok (.iinc 3 1, 3) := by decide +kernel
theorem dX4_allWith_34 : decode cX4_allWith 34 = .ok (.goto (-30), 3) := by decide +kernel
theorem dX4_allWith_37 : decode cX4_allWith 37 = .ok (.iload_n 2, 1) := by decide +kernel
theorem dX4_allWith_38 : decode cX4_allWith 38 = .ok (.ireturn, 1) := by decide +kernel
