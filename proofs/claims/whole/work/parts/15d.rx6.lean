theorem dX6_init_0 : decode cX6_init 0 = .ok (.aload_n 0, 1) := by decide +kernel
theorem dX6_init_1 : decode cX6_init 1 = .ok (.invokespecial 1, 3) := by decide +kernel
theorem dX6_init_4 : decode cX6_init 4 = .ok (.aload_n 0, 1) := by decide +kernel
theorem dX6_init_5 : decode cX6_init 5 = .ok (.sipush 158, 3) := by decide +kernel
theorem dX6_init_8 : decode cX6_init 8 = .ok (.newarray .int, 2) := by decide +kernel
theorem dX6_init_10 : decode cX6_init 10 = .ok (.putfield 7, 3) := by decide +kernel
theorem dX6_init_13 : decode cX6_init 13 = .ok (.aload_n 0, 1) := by decide +kernel
theorem dX6_init_14 : decode cX6_init 14 = .ok (.sipush 632, 3) := by decide +kernel
theorem dX6_init_17 : decode cX6_init 17 = .ok (.newarray .int, 2) := by decide +kernel
theorem dX6_init_19 : decode cX6_init 19 = .ok (.putfield 13, 3) := by decide +kernel
theorem dX6_init_22 : decode cX6_init 22 = .ok (.aload_n 0, 1) := by decide +kernel
theorem dX6_init_23 : decode cX6_init 23 = .ok (.bipush 100, 2) := by decide +kernel
theorem dX6_init_25 : decode cX6_init 25 = .ok (.newarray .int, 2) := by decide +kernel
theorem dX6_init_27 : decode cX6_init 27 = .ok (.putfield 16, 3) := by decide +kernel
theorem dX6_init_30 : decode cX6_init 30 = .ok (.aload_n 0, 1) := by decide +kernel
theorem dX6_init_31 : decode cX6_init 31 = .ok (.getfield 7, 3) := by decide +kernel
theorem dX6_init_34 : decode cX6_init 34 = .ok (.iconst 0, 1) := by decide +kernel
theorem dX6_init_35 : decode cX6_init 35 = .ok (.iconst 0, 1) := by decide +kernel
theorem dX6_init_36 : decode cX6_init 36 = .ok (.iastore, 1) := by decide +kernel
theorem dX6_init_37 : decode cX6_init 37 = .ok (.return_, 1) := by decide +kernel
theorem dX6_thrown_0 : decode cX6_thrown 0 = .ok (.aload_n 0, 1) := by decide +kernel
theorem dX6_thrown_1 : decode cX6_thrown 1 = .ok (.getfield 19, 3) := by decide +kernel
theorem dX6_thrown_4 : decode cX6_thrown 4 = .ok (.ireturn, 1) := by decide +kernel
theorem dX6_refused_0 : decode cX6_refused 0 = .ok (.aload_n 0, 1) := by decide +kernel
theorem dX6_refused_1 : decode cX6_refused 1 = .ok (.iload_n 1, 1) := by decide +kernel
theorem dX6_refused_2 : decode cX6_refused 2 = .ok (.putfield 19, 3) := by decide +kernel
theorem dX6_refused_5 : decode cX6_refused 5 = .ok (.iconst 0, 1) := by decide +kernel
theorem dX6_refused_6 : decode cX6_refused 6 = .ok (.ireturn, 1) := by decide +kernel
theorem dX6_in_0 : decode cX6_in 0 = .ok (.iload_n 0, 1) := by decide +kernel
theorem dX6_in_1 : decode cX6_in 1 = .ok (.iload_n 1, 1) := by decide +kernel
theorem dX6_in_2 : decode cX6_in 2 = .ok (.if_icmp .lt 12, 3) := by decide +kernel
theorem dX6_in_5 : decode cX6_in 5 = .ok (.iload_n 0, 1) := by decide +kernel
theorem dX6_in_6 : decode cX6_in 6 = .ok (.iload_n 2, 1) := by decide +kernel
theorem dX6_in_7 : decode cX6_in 7 = .ok (.if_icmp .gt 7, 3) := by decide +kernel
theorem dX6_in_10 : decode cX6_in 10 = .ok (.iconst 1, 1) := by decide +kernel
theorem dX6_in_11 : decode cX6_in 11 = .ok (.goto 4, 3) := by decide +kernel
theorem dX6_in_14 : decode cX6_in 14 = .ok (.iconst 0, 1) := by decide +kernel
theorem dX6_in_15 : decode cX6_in 15 = .ok (.ireturn, 1) := by decide +kernel
set_option maxRecDepth 20000 in
theorem ggX6_isDay_X6_in : GoodIn wsX6_isDay wsX6_in := goodIn_r _ [4] (by decide +kernel) (by decide +kernel)
set_option maxRecDepth 20000 in
theorem gX6_isDay_X6_in : GoodIn wsX6_isDay (va_wsS RX6 23 yX6_in wsX6_in) := goodIn_app (goodIn_of _ (by decide +kernel)) ggX6_isDay_X6_in
theorem dX6_isDay_0 : decode cX6_isDay 0 = .ok (.iload_n 0, 1) := by decide +kernel
theorem dX6_isDay_1 : decode cX6_isDay 1 = .ok (.iconst 0, 1) := by decide +kernel
theorem dX6_isDay_2 : decode cX6_isDay 2 = .ok (.sipush 999, 3) := by decide +kernel
theorem dX6_isDay_5 : decode cX6_isDay 5 = .ok (.invokestatic 23, 3) := by decide +kernel
theorem dX6_isDay_8 : decode cX6_isDay 8 = .ok (.ireturn, 1) := by decide +kernel
set_option maxRecDepth 20000 in
theorem ggX6_isVersion_X6_in : GoodIn wsX6_isVersion wsX6_in := goodIn_r _ [5] (by decide +kernel) (by decide +kernel)
set_option maxRecDepth 20000 in
theorem gX6_isVersion_X6_in : GoodIn wsX6_isVersion (va_wsS RX6 23 yX6_in wsX6_in) := goodIn_app (goodIn_of _ (by decide +kernel)) ggX6_isVersion_X6_in
theorem dX6_isVersion_0 : decode cX6_isVersion 0 = .ok (.iload_n 1, 1) := by decide +kernel
theorem dX6_isVersion_1 : decode cX6_isVersion 1 = .ok (.iconst 0, 1) := by decide +kernel
theorem dX6_isVersion_2 : decode cX6_isVersion 2 = .ok (.aload_n 0, 1) := by decide +kernel
theorem dX6_isVersion_3 : decode cX6_isVersion 3 = .ok (.getfield 7, 3) := by decide +kernel
theorem dX6_isVersion_6 : decode cX6_isVersion 6 = .ok (.iconst 0, 1) := by decide +kernel
theorem dX6_isVersion_7 : decode cX6_isVersion 7 = .ok (.iaload, 1) := by decide +kernel
theorem dX6_isVersion_8 : decode cX6_isVersion 8 = .ok (.iconst 1, 1) := by decide +kernel
theorem dX6_isVersion_9 : decode cX6_isVersion 9 = .ok (.isub, 1) := by decide +kernel
theorem dX6_isVersion_10 : decode cX6_isVersion 10 = .ok (.invokestatic 23, 3) := by decide +kernel
theorem dX6_isVersion_13 : decode cX6_isVersion 13 = .ok (.ireturn, 1) := by decide +kernel
set_option maxRecDepth 20000 in
theorem ggX6_isFeature_X6_in : GoodIn wsX6_isFeature wsX6_in := goodIn_r _ [5] (by decide +kernel) (by decide +kernel)
set_option maxRecDepth 20000 in
theorem gX6_isFeature_X6_in : GoodIn wsX6_isFeature (va_wsS RX6 23 yX6_in wsX6_in) := goodIn_app (goodIn_of _ (by decide +kernel)) ggX6_isFeature_X6_in
theorem dX6_isFeature_0 : decode cX6_isFeature 0 = .ok (.iload_n 1, 1) := by decide +kernel
theorem dX6_isFeature_1 : decode cX6_isFeature 1 = .ok (.iconst 0, 1) := by decide +kernel
theorem dX6_isFeature_2 : decode cX6_isFeature 2 = .ok (.aload_n 0, 1) := by decide +kernel
theorem dX6_isFeature_3 : decode cX6_isFeature 3 = .ok (.getfield 7, 3) := by decide +kernel
theorem dX6_isFeature_6 : decode cX6_isFeature 6 = .ok (.iconst 1, 1) := by decide +kernel
theorem dX6_isFeature_7 : decode cX6_isFeature 7 = .ok (.iaload, 1) := by decide +kernel
theorem dX6_isFeature_8 : decode cX6_isFeature 8 = .ok (.iconst 1, 1) := by decide +kernel
theorem dX6_isFeature_9 : decode cX6_isFeature 9 = .ok (.isub, 1) := by decide +kernel
theorem dX6_isFeature_10 : decode cX6_isFeature 10 = .ok (.invokestatic 23, 3) := by decide +kernel
theorem dX6_isFeature_13 : decode cX6_isFeature 13 = .ok (.ireturn, 1) := by decide +kernel
set_option maxRecDepth 20000 in
theorem ggX6_isUser_X6_in : GoodIn wsX6_isUser wsX6_in := goodIn_r _ [5] (by decide +kernel) (by decide +kernel)
set_option maxRecDepth 20000 in
theorem gX6_isUser_X6_in : GoodIn wsX6_isUser (va_wsS RX6 23 yX6_in wsX6_in) := goodIn_app (goodIn_of _ (by decide +kernel)) ggX6_isUser_X6_in
theorem dX6_isUser_0 : decode cX6_isUser 0 = .ok (.iload_n 1, 1) := by decide +kernel
theorem dX6_isUser_1 : decode cX6_isUser 1 = .ok (.iconst 0, 1) := by decide +kernel
theorem dX6_isUser_2 : decode cX6_isUser 2 = .ok (.aload_n 0, 1) := by decide +kernel
theorem dX6_isUser_3 : decode cX6_isUser 3 = .ok (.getfield 7, 3) := by decide +kernel
theorem dX6_isUser_6 : decode cX6_isUser 6 = .ok (.iconst 2, 1) := by decide +kernel
theorem dX6_isUser_7 : decode cX6_isUser 7 = .ok (.iaload, 1) := by decide +kernel
theorem dX6_isUser_8 : decode cX6_isUser 8 = .ok (.iconst 1, 1) := by decide +kernel
theorem dX6_isUser_9 : decode cX6_isUser 9 = .ok (.isub, 1) := by decide +kernel
theorem dX6_isUser_10 : decode cX6_isUser 10 = .ok (.invokestatic 23, 3) := by decide +kernel
theorem dX6_isUser_13 : decode cX6_isUser 13 = .ok (.ireturn, 1) := by decide +kernel
set_option maxRecDepth 20000 in
theorem ggX6_isShim_X6_in : GoodIn wsX6_isShim wsX6_in := goodIn_r _ [5] (by decide +kernel) (by decide +kernel)
set_option maxRecDepth 20000 in
theorem gX6_isShim_X6_in : GoodIn wsX6_isShim (va_wsS RX6 23 yX6_in wsX6_in) := goodIn_app (goodIn_of _ (by decide +kernel)) ggX6_isShim_X6_in
theorem dX6_isShim_0 : decode cX6_isShim 0 = .ok (.iload_n 1, 1) := by decide +kernel
theorem dX6_isShim_1 : decode cX6_isShim 1 = .ok (.iconst 0, 1) := by decide +kernel
theorem dX6_isShim_2 : decode cX6_isShim 2 = .ok (.aload_n 0, 1) := by decide +kernel
theorem dX6_isShim_3 : decode cX6_isShim 3 = .ok (.getfield 7, 3) := by decide +kernel
theorem dX6_isShim_6 : decode cX6_isShim 6 = .ok (.iconst 3, 1) := by decide +kernel
theorem dX6_isShim_7 : decode cX6_isShim 7 = .ok (.iaload, 1) := by decide +kernel
theorem dX6_isShim_8 : decode cX6_isShim 8 = .ok (.iconst 1, 1) := by decide +kernel
theorem dX6_isShim_9 : decode cX6_isShim 9 = .ok (.isub, 1) := by decide +kernel
theorem dX6_isShim_10 : decode cX6_isShim 10 = .ok (.invokestatic 23, 3) := by decide +kernel
theorem dX6_isShim_13 : decode cX6_isShim 13 = .ok (.ireturn, 1) := by decide +kernel
theorem dX6_release_0 : decode cX6_release 0 = .ok (.aload_n 0, 1) := by decide +kernel
theorem dX6_release_1 : decode cX6_release 1 = .ok (.getfield 7, 3) := by decide +kernel
theorem dX6_release_4 : decode cX6_release 4 = .ok (.iconst 4, 1) := by decide +kernel
theorem dX6_release_5 : decode cX6_release 5 = .ok (.iconst 3, 1) := by decide +kernel
theorem dX6_release_6 : decode cX6_release 6 = .ok (.iload_n 1, 1) := by decide +kernel
theorem dX6_release_7 : decode cX6_release 7 = .ok (.imul, 1) := by decide +kernel
theorem dX6_release_8 : decode cX6_release 8 = .ok (.iadd, 1) := by decide +kernel
theorem dX6_release_9 : decode cX6_release 9 = .ok (.iaload, 1) := by decide +kernel
theorem dX6_release_10 : decode cX6_release 10 = .ok (.ireturn, 1) := by decide +kernel
theorem dX6_end_0 : decode cX6_end 0 = .ok (.aload_n 0, 1) := by decide +kernel
theorem dX6_end_1 : decode cX6_end 1 = .ok (.getfield 7, 3) := by decide +kernel
theorem dX6_end_4 : decode cX6_end 4 = .ok (.iconst 5, 1) := by decide +kernel
theorem dX6_end_5 : decode cX6_end 5 = .ok (.iconst 3, 1) := by decide +kernel
theorem dX6_end_6 : decode cX6_end 6 = .ok (.iload_n 1, 1) := by decide +kernel
theorem dX6_end_7 : decode cX6_end 7 = .ok (.imul, 1) := by decide +kernel
theorem dX6_end_8 : decode cX6_end 8 = .ok (.iadd, 1) := by decide +kernel
theorem dX6_end_9 : decode cX6_end 9 = .ok (.iaload, 1) := by decide +kernel
theorem dX6_end_10 : decode cX6_end 10 = .ok (.ireturn, 1) := by decide +kernel
theorem dX6_ofUser_0 : decode cX6_ofUser 0 = .ok (.aload_n 0, 1) := by decide +kernel
theorem dX6_ofUser_1 : decode cX6_ofUser 1 = .ok (.getfield 7, 3) := by decide +kernel
theorem dX6_ofUser_4 : decode cX6_ofUser 4 = .ok (.bipush 38, 2) := by decide +kernel
theorem dX6_ofUser_6 : decode cX6_ofUser 6 = .ok (.bipush 6, 2) := by decide +kernel
theorem dX6_ofUser_8 : decode cX6_ofUser 8 = .ok (.iload_n 1, 1) := by decide +kernel
theorem dX6_ofUser_9 : decode cX6_ofUser 9 = .ok (.imul, 1) := by decide +kernel
theorem dX6_ofUser_10 : decode cX6_ofUser 10 = .ok (.iadd, 1) := by decide +kernel
theorem dX6_ofUser_11 : decode cX6_ofUser 11 = .ok (.iload_n 2, 1) := by decide +kernel
theorem dX6_ofUser_12 : decode cX6_ofUser 12 = .ok (.iadd, 1) := by decide +kernel
theorem dX6_ofUser_13 : decode cX6_ofUser 13 = .ok (.iaload, 1) := by decide +kernel
theorem dX6_ofUser_14 : decode cX6_ofUser 14 = .ok (.ireturn, 1) := by decide +kernel
theorem dX6_ofShim_0 : decode cX6_ofShim 0 = .ok (.aload_n 0, 1) := by decide +kernel
theorem dX6_ofShim_1 : decode cX6_ofShim 1 = .ok (.getfield 7, 3) := by decide +kernel
theorem dX6_ofShim_4 : decode cX6_ofShim 4 = .ok (.bipush 98, 2) := by decide +kernel
theorem dX6_ofShim_6 : decode cX6_ofShim 6 = .ok (.iconst 5, 1) := by decide +kernel
theorem dX6_ofShim_7 : decode cX6_ofShim 7 = .ok (.iload_n 1, 1) := by decide +kernel
theorem dX6_ofShim_8 : decode cX6_ofShim 8 = .ok (.imul, 1) := by decide +kernel
theorem dX6_ofShim_9 : decode cX6_ofShim 9 = .ok (.iadd, 1) := by decide +kernel
theorem dX6_ofShim_10 : decode cX6_ofShim 10 = .ok (.iload_n 2, 1) := by decide +kernel
theorem dX6_ofShim_11 : decode cX6_ofShim 11 = .ok (.iadd, 1) := by decide +kernel
theorem dX6_ofShim_12 : decode cX6_ofShim 12 = .ok (.iaload, 1) := by decide +kernel
theorem dX6_ofShim_13 : decode cX6_ofShim 13 = .ok (.ireturn, 1) := by decide +kernel
theorem dX6_has_0 : decode cX6_has 0 = .ok (.iload_n 0, 1) := by decide +kernel
theorem dX6_has_1 : decode cX6_has 1 = .ok (.iload_n 1, 1) := by decide +kernel
theorem dX6_has_2 : decode cX6_has 2 = .ok (.ishr, 1) := by decide +kernel
theorem dX6_has_3 : decode cX6_has 3 = .ok (.iconst 1, 1) := by decide +kernel
theorem dX6_has_4 : decode cX6_has 4 = .ok (.iand, 1) := by decide +kernel
theorem dX6_has_5 : decode cX6_has 5 = .ok (.iconst 1, 1) := by decide +kernel
theorem dX6_has_6 : decode cX6_has 6 = .ok (.if_icmp .ne 7, 3) := by decide +kernel
theorem dX6_has_9 : decode cX6_has 9 = .ok (.iconst 1, 1) := by decide +kernel
theorem dX6_has_10 : decode cX6_has 10 = .ok (.goto 4, 3) := by decide +kernel
theorem dX6_has_13 : decode cX6_has 13 = .ok (.iconst 0, 1) := by decide +kernel
theorem dX6_has_14 : decode cX6_has 14 = .ok (.ireturn, 1) := by decide +kernel
theorem dX6_save_0 : decode cX6_save 0 = .ok (.aload_n 0, 1) := by decide +kernel
theorem dX6_save_1 : decode cX6_save 1 = .ok (.getfield 27, 3) := by decide +kernel
theorem dX6_save_4 : decode cX6_save 4 = .ok (.iconst 4, 1) := by decide +kernel
theorem dX6_save_5 : decode cX6_save 5 = .ok (.if_icmp .ne 46, 3) := by decide +kernel
theorem dX6_save_8 : decode cX6_save 8 = .ok (.sipush 158, 3) := by decide +kernel
theorem dX6_save_11 : decode cX6_save 11 = .ok (.istore_n 1, 1) := by decide +kernel
theorem dX6_save_12 : decode cX6_save 12 = .ok (.iload_n 1, 1) := by decide +kernel
theorem dX6_save_13 : decode cX6_save 13 = .ok (.sipush 632, 3) := by decide +kernel
theorem dX6_save_16 : decode cX6_save 16 = .ok (.if_icmp .ge 25, 3) := by decide +kernel
theorem dX6_save_19 : decode cX6_save 19 = .ok (.aload_n 0, 1) := by decide +kernel
theorem dX6_save_20 : decode cX6_save 20 = .ok (.getfield 13, 3) := by decide +kernel
theorem dX6_save_23 : decode cX6_save 23 = .ok (.iload_n 1, 1) := by decide +kernel
theorem dX6_save_24 : decode cX6_save 24 = .ok (.sipush 158, 3) := by decide +kernel
theorem dX6_save_27 : decode cX6_save 27 = .ok (.isub, 1) := by decide +kernel
theorem dX6_save_28 : decode cX6_save 28 = .ok (.aload_n 0, 1) := by decide +kernel
theorem dX6_save_29 : decode cX6_save 29 = .ok (.getfield 13, 3) := by decide +kernel
theorem dX6_save_32 : decode cX6_save 32 = .ok (.iload_n 1, 1) := by decide +kernel
theorem dX6_save_33 : decode cX6_save 33 = .ok (.iaload, 1) := by decide +kernel
theorem dX6_save_34 : decode cX6_save 34 = .ok (.iastore, 1) := by decide +kernel
theorem dX6_save_35 : decode cX6_save 35 = .ok (.iinc 1 1, 3) := by decide +kernel
theorem dX6_save_38 : decode cX6_save 38 = .ok (.goto (-26), 3) := by decide +kernel
theorem dX6_save_41 : decode cX6_save 41 = .ok (.aload_n 0, 1) := by decide +kernel
theorem dX6_save_42 : decode cX6_save 42 = .ok (.dup, 1) := by decide +kernel
theorem dX6_save_43 : decode cX6_save 43 = .ok (.getfield 27, 3) := by decide +kernel
theorem dX6_save_46 : decode cX6_save 46 = .ok (.iconst 1, 1) := by decide +kernel
theorem dX6_save_47 : decode cX6_save 47 = .ok (.isub, 1) := by decide +kernel
theorem dX6_save_48 : decode cX6_save 48 = .ok (.putfield 27, 3) := by decide +kernel
theorem dX6_save_51 : decode cX6_save 51 = .ok (.iconst 0, 1) := by decide +kernel
theorem dX6_save_52 : decode cX6_save 52 = .ok (.istore_n 1, 1) := by decide +kernel
theorem dX6_save_53 : decode cX6_save 53 = .ok (.iload_n 1, 1) := by decide +kernel
theorem dX6_save_54 : decode cX6_save 54 = .ok (.sipush 158, 3) := by decide +kernel
theorem dX6_save_57 : decode cX6_save 57 = .ok (.if_icmp .ge 30, 3) := by decide +kernel
theorem dX6_save_60 : decode cX6_save 60 = .ok (.aload_n 0, 1) := by decide +kernel
theorem dX6_save_61 : decode cX6_save 61 = .ok (.getfield 13, 3) := by decide +kernel
theorem dX6_save_64 : decode cX6_save 64 = .ok (.sipush 158, 3) := by decide +kernel
theorem dX6_save_67 : decode cX6_save 67 = .ok (.aload_n 0, 1) := by decide +kernel
theorem dX6_save_68 : decode cX6_save 68 = .ok (.getfield 27, 3) := by decide +kernel
theorem dX6_save_71 : decode cX6_save 71 = .ok (.imul, 1) := by decide +kernel
theorem dX6_save_72 : decode cX6_save 72 = .ok (.iload_n 1, 1) := by decide +kernel
theorem dX6_save_73 : decode cX6_save 73 = .ok (.iadd, 1) := by decide +kernel
theorem dX6_save_74 : decode cX6_save 74 = .ok (.aload_n 0, 1) := by decide +kernel
theorem dX6_save_75 : decode cX6_save 75 = .ok (.getfield 7, 3) := by decide +kernel
theorem dX6_save_78 : decode cX6_save 78 = .ok (.iload_n 1, 1) := by decide +kernel
theorem dX6_save_79 : decode cX6_save 79 = .ok (.iaload, 1) := by decide +kernel
theorem dX6_save_80 : decode cX6_save 80 = .ok (.iastore, 1) := by decide +kernel
theorem dX6_save_81 : decode cX6_save 81 = .ok (.iinc 1 1, 3) := by decide +kernel
theorem dX6_save_84 : decode cX6_save 84 = .ok (.goto (-31), 3) := by decide +kernel
theorem dX6_save_87 : decode cX6_save 87 = .ok (.aload_n 0, 1) := by decide +kernel
theorem dX6_save_88 : decode cX6_save 88 = .ok (.dup, 1) := by decide +kernel
theorem dX6_save_89 : decode cX6_save 89 = .ok (.getfield 27, 3) := by decide +kernel
theorem dX6_save_92 : decode cX6_save 92 = .ok (.iconst 1, 1) := by decide +kernel
theorem dX6_save_93 : decode cX6_save 93 = .ok (.iadd, 1) := by decide +kernel
theorem dX6_save_94 : decode cX6_save 94 = .ok (.putfield 27, 3) := by decide +kernel
theorem dX6_save_97 : decode cX6_save 97 = .ok (.return_, 1) := by decide +kernel
set_option maxRecDepth 20000 in
theorem ggX6_undo_X6_refused : GoodIn wsX6_undo wsX6_refused := goodIn_r _ [9, 1, 10, 11, 12, 13, 14, 15, 16, 17, 18, 19, 20, 21, 22, 23] (by decide +kernel) (by decide +kernel)
set_option maxRecDepth 20000 in
theorem gX6_undo_X6_refused : GoodIn wsX6_undo (wsV RX6 30 RX6 yX6_refused wsX6_refused) := goodIn_app (goodIn_of _ (by decide +kernel)) ggX6_undo_X6_refused
theorem dX6_undo_0 : decode cX6_undo 0 = .ok (.aload_n 0, 1) := by decide +kernel
theorem dX6_undo_1 : decode cX6_undo 1 = .ok (.iconst 0, 1) := by decide +kernel
theorem dX6_undo_2 : decode cX6_undo 2 = .ok (.putfield 19, 3) := by decide +kernel
theorem dX6_undo_5 : decode cX6_undo 5 = .ok (.aload_n 0, 1) := by decide +kernel
theorem dX6_undo_6 : decode cX6_undo 6 = .ok (.getfield 27, 3) := by decide +kernel
theorem dX6_undo_9 : decode cX6_undo 9 = .ok (.ifCond .ne 9, 3) := by decide +kernel
theorem dX6_undo_12 : decode cX6_undo 12 = .ok (.aload_n 0, 1) := by decide +kernel
theorem dX6_undo_13 : decode cX6_undo 13 = .ok (.iconst 1, 1) := by decide +kernel
theorem dX6_undo_14 : decode cX6_undo 14 = .ok (.invokevirtual 30, 3) := by decide +kernel
theorem dX6_undo_17 : decode cX6_undo 17 = .ok (.ireturn, 1) := by decide +kernel
theorem dX6_undo_18 : decode cX6_undo 18 = .ok (.aload_n 0, 1) := by decide +kernel
theorem dX6_undo_19 : decode cX6_undo 19 = .ok (.dup, 1) := by decide +kernel
theorem dX6_undo_20 : decode cX6_undo 20 = .ok (.getfield 27, 3) := by decide +kernel
theorem dX6_undo_23 : decode cX6_undo 23 = .ok (.iconst 1, 1) := by decide +kernel
theorem dX6_undo_24 : decode cX6_undo 24 = .ok (.isub, 1) := by decide +kernel
theorem dX6_undo_25 : decode cX6_undo 25 = .ok (.putfield 27, 3) := by decide +kernel
theorem dX6_undo_28 : decode cX6_undo 28 = .ok (.iconst 0, 1) := by decide +kernel
theorem dX6_undo_29 : decode cX6_undo 29 = .ok (.istore_n 1, 1) := by decide +kernel
theorem dX6_undo_30 : decode cX6_undo 30 = .ok (.iload_n 1, 1) := by decide +kernel
theorem dX6_undo_31 : decode cX6_undo 31 = .ok (.sipush 158, 3) := by decide +kernel
theorem dX6_undo_34 : decode cX6_undo 34 = .ok (.if_icmp .ge 30, 3) := by decide +kernel
theorem dX6_undo_37 : decode cX6_undo 37 = .ok (.aload_n 0, 1) := by decide +kernel
theorem dX6_undo_38 : decode cX6_undo 38 = .ok (.getfield 7, 3) := by decide +kernel
theorem dX6_undo_41 : decode cX6_undo 41 = .ok (.iload_n 1, 1) := by decide +kernel
theorem dX6_undo_42 : decode cX6_undo 42 = .ok (.aload_n 0, 1) := by decide +kernel
theorem dX6_undo_43 : decode cX6_undo 43 = .ok (.getfield 13, 3) := by decide +kernel
theorem dX6_undo_46 : decode cX6_undo 46 = .ok (.sipush 158, 3) := by decide +kernel
theorem dX6_undo_49 : decode cX6_undo 49 = .ok (.aload_n 0, 1) := by decide +kernel
theorem dX6_undo_50 : decode cX6_undo 50 = .ok (.getfield 27, 3) := by decide +kernel
theorem dX6_undo_53 : decode cX6_undo 53 = .ok (.imul, 1) := by decide +kernel
theorem dX6_undo_54 : decode cX6_undo 54 = .ok (.iload_n 1, 1) := by decide +kernel
theorem dX6_undo_55 : decode cX6_undo 55 = .ok (.iadd, 1) := by decide +kernel
theorem dX6_undo_56 : decode cX6_undo 56 = .ok (.iaload, 1) := by decide +kernel
theorem dX6_undo_57 : decode cX6_undo 57 = .ok (.iastore, 1) := by decide +kernel
theorem dX6_undo_58 : decode cX6_undo 58 = .ok (.iinc 1 1, 3) := by decide +kernel
theorem dX6_undo_61 : decode cX6_undo 61 = .ok (.goto (-31), 3) := by decide +kernel
theorem dX6_undo_64 : decode cX6_undo 64 = .ok (.aload_n 0, 1) := by decide +kernel
theorem dX6_undo_65 : decode cX6_undo 65 = .ok (.getfield 27, 3) := by decide +kernel
theorem dX6_undo_68 : decode cX6_undo 68 = .ok (.ireturn, 1) := by decide +kernel
set_option maxRecDepth 20000 in
theorem ggX6_addVersion_X6_in : GoodIn wsX6_addVersion wsX6_in := goodIn_r _ [6] (by decide +kernel) (by decide +kernel)
set_option maxRecDepth 20000 in
theorem gX6_addVersion_X6_in : GoodIn wsX6_addVersion (va_wsS RX6 23 yX6_in wsX6_in) := goodIn_app (goodIn_of _ (by decide +kernel)) ggX6_addVersion_X6_in
set_option maxRecDepth 20000 in
theorem ggX6_addVersion_X6_refused : GoodIn wsX6_addVersion wsX6_refused := goodIn_r _ [10, 1, 17, 18, 19, 20, 21, 22, 23, 24, 25, 26, 27, 28, 29, 30] (by decide +kernel) (by decide +kernel)
set_option maxRecDepth 20000 in
theorem gX6_addVersion_X6_refused : GoodIn wsX6_addVersion (wsV RX6 30 RX6 yX6_refused wsX6_refused) := goodIn_app (goodIn_of _ (by decide +kernel)) ggX6_addVersion_X6_refused
set_option maxRecDepth 20000 in
theorem ggX6_addVersion_X6_save : GoodIn wsX6_addVersion wsX6_save := goodIn_r _ [14, 15, 16, 2, 17, 18, 19, 20, 21, 22, 23, 24, 25, 26, 27, 28, 29, 30] (by decide +kernel) (by decide +kernel)
set_option maxRecDepth 20000 in
theorem gX6_addVersion_X6_save : GoodIn wsX6_addVersion (wsV RX6 34 RX6 yX6_save wsX6_save) := goodIn_app (goodIn_of _ (by decide +kernel)) ggX6_addVersion_X6_save
theorem dX6_addVersion_0 : decode cX6_addVersion 0 = .ok (.aload_n 0, 1) := by decide +kernel
theorem dX6_addVersion_1 : decode cX6_addVersion 1 = .ok (.iconst 0, 1) := by decide +kernel
theorem dX6_addVersion_2 : decode cX6_addVersion 2 = .ok (.putfield 19, 3) := by decide +kernel
theorem dX6_addVersion_5 : decode cX6_addVersion 5 = .ok (.iload_n 1, 1) := by decide +kernel
theorem dX6_addVersion_6 : decode cX6_addVersion 6 = .ok (.iconst 0, 1) := by decide +kernel
theorem dX6_addVersion_7 : decode cX6_addVersion 7 = .ok (.sipush 998, 3) := by decide +kernel
theorem dX6_addVersion_10 : decode cX6_addVersion 10 = .ok (.invokestatic 23, 3) := by decide +kernel
theorem dX6_addVersion_13 : decode cX6_addVersion 13 = .ok (.ifCond .eq 16, 3) := by decide +kernel
theorem dX6_addVersion_16 : decode cX6_addVersion 16 = .ok (.iload_n 2, 1) := by decide +kernel
theorem dX6_addVersion_17 : decode cX6_addVersion 17 = .ok (.iload_n 1, 1) := by decide +kernel
theorem dX6_addVersion_18 : decode cX6_addVersion 18 = .ok (.iconst 1, 1) := by decide +kernel
theorem dX6_addVersion_19 : decode cX6_addVersion 19 = .ok (.iadd, 1) := by decide +kernel
theorem dX6_addVersion_20 : decode cX6_addVersion 20 = .ok (.sipush 1000, 3) := by decide +kernel
theorem dX6_addVersion_23 : decode cX6_addVersion 23 = .ok (.invokestatic 23, 3) := by decide +kernel
theorem dX6_addVersion_26 : decode cX6_addVersion 26 = .ok (.ifCond .ne 9, 3) := by decide +kernel
theorem dX6_addVersion_29 : decode cX6_addVersion 29 = .ok (.aload_n 0, 1) := by decide +kernel
theorem dX6_addVersion_30 : decode cX6_addVersion 30 = .ok (.iconst 1, 1) := by decide +kernel
theorem dX6_addVersion_31 : decode cX6_addVersion 31 = .ok (.invokevirtual 30, 3) := by decide +kernel
theorem dX6_addVersion_34 : decode cX6_addVersion 34 = .ok (.ireturn, 1) := by decide +kernel
theorem dX6_addVersion_35 : decode cX6_addVersion 35 = .ok (.aload_n 0, 1) := by decide +kernel
theorem dX6_addVersion_36 : decode cX6_addVersion 36 = .ok (.getfield 7, 3) := by decide +kernel
theorem dX6_addVersion_39 : decode cX6_addVersion 39 = .ok (.iconst 0, 1) := by decide +kernel
theorem dX6_addVersion_40 : decode cX6_addVersion 40 = .ok (.iaload, 1) := by decide +kernel
theorem dX6_addVersion_41 : decode cX6_addVersion 41 = .ok (.bipush 8, 2) := by decide +kernel
theorem dX6_addVersion_43 : decode cX6_addVersion 43 = .ok (.if_icmp .ne 9, 3) := by decide +kernel
theorem dX6_addVersion_46 : decode cX6_addVersion 46 = .ok (.aload_n 0, 1) := by decide +kernel
theorem dX6_addVersion_47 : decode cX6_addVersion 47 = .ok (.iconst 2, 1) := by decide +kernel
theorem dX6_addVersion_48 : decode cX6_addVersion 48 = .ok (.invokevirtual 30, 3) := by decide +kernel
theorem dX6_addVersion_51 : decode cX6_addVersion 51 = .ok (.ireturn, 1) := by decide +kernel
theorem dX6_addVersion_52 : decode cX6_addVersion 52 = .ok (.aload_n 0, 1) := by decide +kernel
theorem dX6_addVersion_53 : decode cX6_addVersion 53 = .ok (.invokevirtual 34, 3) := by decide +kernel
theorem dX6_addVersion_56 : decode cX6_addVersion 56 = .ok (.iconst 4, 1) := by decide +kernel
theorem dX6_addVersion_57 : decode cX6_addVersion 57 = .ok (.iconst 3, 1) := by decide +kernel
theorem dX6_addVersion_58 : decode cX6_addVersion 58 = .ok (.aload_n 0, 1) := by decide +kernel
theorem dX6_addVersion_59 : decode cX6_addVersion 59 = .ok (.getfield 7, 3) := by decide +kernel
theorem dX6_addVersion_62 : decode cX6_addVersion 62 = .ok (.iconst 0, 1) := by decide +kernel
theorem dX6_addVersion_63 : decode cX6_addVersion 63 = .ok (.iaload, 1) := by decide +kernel
theorem dX6_addVersion_64 : decode cX6_addVersion 64 = .ok (.imul, 1) := by decide +kernel
theorem dX6_addVersion_65 : decode cX6_addVersion 65 = .ok (.iadd, 1) := by decide +kernel
theorem dX6_addVersion_66 : decode cX6_addVersion 66 = .ok (.istore_n 3, 1) := by decide +kernel
theorem dX6_addVersion_67 : decode cX6_addVersion 67 = .ok (.aload_n 0, 1) := by decide +kernel
theorem dX6_addVersion_68 : decode cX6_addVersion 68 = .ok (.getfield 7, 3) := by decide +kernel
theorem dX6_addVersion_71 : decode cX6_addVersion 71 = .ok (.iload_n 3, 1) := by decide +kernel
theorem dX6_addVersion_72 : decode cX6_addVersion 72 = .ok (.iload_n 1, 1) := by decide +kernel
theorem dX6_addVersion_73 : decode cX6_addVersion 73 = .ok (.iastore, 1) := by decide +kernel
theorem dX6_addVersion_74 : decode cX6_addVersion 74 = .ok (.aload_n 0, 1) := by decide +kernel
theorem dX6_addVersion_75 : decode cX6_addVersion 75 = .ok (.getfield 7, 3) := by decide +kernel
theorem dX6_addVersion_78 : decode cX6_addVersion 78 = .ok (.iload_n 3, 1) := by decide +kernel
theorem dX6_addVersion_79 : decode cX6_addVersion 79 = .ok (.iconst 1, 1) := by decide +kernel
theorem dX6_addVersion_80 : decode cX6_addVersion 80 = .ok (.iadd, 1) := by decide +kernel
theorem dX6_addVersion_81 : decode cX6_addVersion 81 = .ok (.iload_n 2, 1) := by decide +kernel
theorem dX6_addVersion_82 : decode cX6_addVersion 82 = .ok (.iastore, 1) := by decide +kernel
theorem dX6_addVersion_83 : decode cX6_addVersion 83 = .ok (.aload_n 0, 1) := by decide +kernel
theorem dX6_addVersion_84 : decode cX6_addVersion 84 = .ok (.getfield 7, 3) := by decide +kernel
theorem dX6_addVersion_87 : decode cX6_addVersion 87 = .ok (.iload_n 3, 1) := by decide +kernel
theorem dX6_addVersion_88 : decode cX6_addVersion 88 = .ok (.iconst 2, 1) := by decide +kernel
theorem dX6_addVersion_89 : decode cX6_addVersion 89 = .ok (.iadd, 1) := by decide +kernel
theorem dX6_addVersion_90 : decode cX6_addVersion 90 = .ok (.iconst 0, 1) := by decide +kernel
theorem dX6_addVersion_91 : decode cX6_addVersion 91 = .ok (.iastore, 1) := by decide +kernel
theorem dX6_addVersion_92 : decode cX6_addVersion 92 = .ok (.aload_n 0, 1) := by decide +kernel
theorem dX6_addVersion_93 : decode cX6_addVersion 93 = .ok (.getfield 7, 3) := by decide +kernel
theorem dX6_addVersion_96 : decode cX6_addVersion 96 = .ok (.iconst 0, 1) := by decide +kernel
theorem dX6_addVersion_97 : decode cX6_addVersion 97 = .ok (.dup2, 1) := by decide +kernel
theorem dX6_addVersion_98 : decode cX6_addVersion 98 = .ok (.iaload, 1) := by decide +kernel
theorem dX6_addVersion_99 : decode cX6_addVersion 99 = .ok (.iconst 1, 1) := by decide +kernel
theorem dX6_addVersion_100 : decode cX6_addVersion 100 = .ok (.iadd, 1) := by decide +kernel
theorem dX6_addVersion_101 : decode cX6_addVersion 101 = .ok (.iastore, 1) := by decide +kernel
theorem dX6_addVersion_102 : decode cX6_addVersion 102 = .ok (.aload_n 0, 1) := by decide +kernel
theorem dX6_addVersion_103 : decode cX6_addVersion 103 = .ok (.getfield 7, 3) := by decide +kernel
theorem dX6_addVersion_106 : decode cX6_addVersion 106 = .ok (.iconst 0, 1) := by decide +kernel
theorem dX6_addVersion_107 : decode cX6_addVersion 107 = .ok (.iaload, 1) := by decide +kernel
theorem dX6_addVersion_108 : decode cX6_addVersion 108 = .ok (.iconst 1, 1) := by decide +kernel
theorem dX6_addVersion_109 : decode cX6_addVersion 109 = .ok (.isub, 1) := by decide +kernel
theorem dX6_addVersion_110 : decode cX6_addVersion 110 = .ok (.ireturn, 1) := by decide +kernel
set_option maxRecDepth 20000 in
theorem ggX6_addFeature_X6_in : GoodIn wsX6_addFeature wsX6_in := goodIn_r _ [6] (by decide +kernel) (by decide +kernel)
set_option maxRecDepth 20000 in
theorem gX6_addFeature_X6_in : GoodIn wsX6_addFeature (va_wsS RX6 23 yX6_in wsX6_in) := goodIn_app (goodIn_of _ (by decide +kernel)) ggX6_addFeature_X6_in
set_option maxRecDepth 20000 in
theorem ggX6_addFeature_X6_refused : GoodIn wsX6_addFeature wsX6_refused := goodIn_r _ [10, 1, 17, 18, 19, 20, 21, 22, 23, 24, 25, 26, 27, 28, 29, 30] (by decide +kernel) (by decide +kernel)
set_option maxRecDepth 20000 in
theorem gX6_addFeature_X6_refused : GoodIn wsX6_addFeature (wsV RX6 30 RX6 yX6_refused wsX6_refused) := goodIn_app (goodIn_of _ (by decide +kernel)) ggX6_addFeature_X6_refused
set_option maxRecDepth 20000 in
theorem ggX6_addFeature_X6_save : GoodIn wsX6_addFeature wsX6_save := goodIn_r _ [14, 15, 16, 2, 17, 18, 19, 20, 21, 22, 23, 24, 25, 26, 27, 28, 29, 30] (by decide +kernel) (by decide +kernel)
set_option maxRecDepth 20000 in
theorem gX6_addFeature_X6_save : GoodIn wsX6_addFeature (wsV RX6 34 RX6 yX6_save wsX6_save) := goodIn_app (goodIn_of _ (by decide +kernel)) ggX6_addFeature_X6_save
theorem dX6_addFeature_0 : decode cX6_addFeature 0 = .ok (.aload_n 0, 1) := by decide +kernel
theorem dX6_addFeature_1 : decode cX6_addFeature 1 = .ok (.iconst 0, 1) := by decide +kernel
theorem dX6_addFeature_2 : decode cX6_addFeature 2 = .ok (.putfield 19, 3) := by decide +kernel
theorem dX6_addFeature_5 : decode cX6_addFeature 5 = .ok (.iload_n 1, 1) := by decide +kernel
theorem dX6_addFeature_6 : decode cX6_addFeature 6 = .ok (.iconst 0, 1) := by decide +kernel
theorem dX6_addFeature_7 : decode cX6_addFeature 7 = .ok (.iconst 1, 1) := by decide +kernel
theorem dX6_addFeature_8 : decode cX6_addFeature 8 = .ok (.aload_n 0, 1) := by decide +kernel
theorem dX6_addFeature_9 : decode cX6_addFeature 9 = .ok (.getfield 7, 3) := by decide +kernel
theorem dX6_addFeature_12 : decode cX6_addFeature 12 = .ok (.iconst 0, 1) := by decide +kernel
theorem dX6_addFeature_13 : decode cX6_addFeature 13 = .ok (.iaload, 1) := by decide +kernel
theorem dX6_addFeature_14 : decode cX6_addFeature 14 = .ok (.ishl, 1) := by decide +kernel
theorem dX6_addFeature_15 : decode cX6_addFeature 15 = .ok (.iconst 1, 1) := by decide +kernel
theorem dX6_addFeature_16 : decode cX6_addFeature 16 = .ok (.isub, 1) := by decide +kernel
theorem dX6_addFeature_17 : decode cX6_addFeature 17 = .ok (.invokestatic 23, 3) := by decide +kernel
theorem dX6_addFeature_20 : decode cX6_addFeature 20 = .ok (.ifCond .ne 9, 3) := by decide +kernel
theorem dX6_addFeature_23 : decode cX6_addFeature 23 = .ok (.aload_n 0, 1) := by decide +kernel
theorem dX6_addFeature_24 : decode cX6_addFeature 24 = .ok (.iconst 1, 1) := by decide +kernel
theorem dX6_addFeature_25 : decode cX6_addFeature 25 = .ok (.invokevirtual 30, 3) := by decide +kernel
theorem dX6_addFeature_28 : decode cX6_addFeature 28 = .ok (.ireturn, 1) := by decide +kernel
theorem dX6_addFeature_29 : decode cX6_addFeature 29 = .ok (.aload_n 0, 1) := by decide +kernel
theorem dX6_addFeature_30 : decode cX6_addFeature 30 = .ok (.getfield 7, 3) := by decide +kernel
theorem dX6_addFeature_33 : decode cX6_addFeature 33 = .ok (.iconst 1, 1) := by decide +kernel
theorem dX6_addFeature_34 : decode cX6_addFeature 34 = .ok (.iaload, 1) := by decide +kernel
theorem dX6_addFeature_35 : decode cX6_addFeature 35 = .ok (.bipush 10, 2) := by decide +kernel
theorem dX6_addFeature_37 : decode cX6_addFeature 37 = .ok (.if_icmp .ne 9, 3) := by decide +kernel
theorem dX6_addFeature_40 : decode cX6_addFeature 40 = .ok (.aload_n 0, 1) := by decide +kernel
theorem dX6_addFeature_41 : decode cX6_addFeature 41 = .ok (.iconst 2, 1) := by decide +kernel
theorem dX6_addFeature_42 : decode cX6_addFeature 42 = .ok (.invokevirtual 30, 3) := by decide +kernel
theorem dX6_addFeature_45 : decode cX6_addFeature 45 = .ok (.ireturn, 1) := by decide +kernel
theorem dX6_addFeature_46 : decode cX6_addFeature 46 = .ok (.aload_n 0, 1) := by decide +kernel
theorem dX6_addFeature_47 : decode cX6_addFeature 47 = .ok (.invokevirtual 34, 3) := by decide +kernel
theorem dX6_addFeature_50 : decode cX6_addFeature 50 = .ok (.aload_n 0, 1) := by decide +kernel
theorem dX6_addFeature_51 : decode cX6_addFeature 51 = .ok (.getfield 7, 3) := by decide +kernel
theorem dX6_addFeature_54 : decode cX6_addFeature 54 = .ok (.bipush 28, 2) := by decide +kernel
theorem dX6_addFeature_56 : decode cX6_addFeature 56 = .ok (.aload_n 0, 1) := by decide +kernel
theorem dX6_addFeature_57 : decode cX6_addFeature 57 = .ok (.getfield 7, 3) := by decide +kernel
theorem dX6_addFeature_60 : decode cX6_addFeature 60 = .ok (.iconst 1, 1) := by decide +kernel
theorem dX6_addFeature_61 : decode cX6_addFeature 61 = .ok (.iaload, 1) := by decide +kernel
theorem dX6_addFeature_62 : decode cX6_addFeature 62 = .ok (.iadd, 1) := by decide +kernel
theorem dX6_addFeature_63 : decode cX6_addFeature 63 = .ok (.iload_n 1, 1) := by decide +kernel
theorem dX6_addFeature_64 : decode cX6_addFeature 64 = .ok (.iastore, 1) := by decide +kernel
theorem dX6_addFeature_65 : decode cX6_addFeature 65 = .ok (.aload_n 0, 1) := by decide +kernel
theorem dX6_addFeature_66 : decode cX6_addFeature 66 = .ok (.getfield 7, 3) := by decide +kernel
theorem dX6_addFeature_69 : decode cX6_addFeature 69 = .ok (.iconst 1, 1) := by decide +kernel
theorem dX6_addFeature_70 : decode cX6_addFeature 70 = .ok (.dup2, 1) := by decide +kernel
theorem dX6_addFeature_71 : decode cX6_addFeature 71 = .ok (.iaload, 1) := by decide +kernel
theorem dX6_addFeature_72 : decode cX6_addFeature 72 = .ok (.iconst 1, 1) := by decide +kernel
theorem dX6_addFeature_73 : decode cX6_addFeature 73 = .ok (.iadd, 1) := by decide +kernel
theorem dX6_addFeature_74 : decode cX6_addFeature 74 = .ok (.iastore, 1) := by decide +kernel
theorem dX6_addFeature_75 : decode cX6_addFeature 75 = .ok (.aload_n 0, 1) := by decide +kernel
theorem dX6_addFeature_76 : decode cX6_addFeature 76 = .ok (.getfield 7, 3) := by decide +kernel
theorem dX6_addFeature_79 : decode cX6_addFeature 79 = .ok (.iconst 1, 1) := by decide +kernel
theorem dX6_addFeature_80 : decode cX6_addFeature 80 = .ok (.iaload, 1) := by decide +kernel
theorem dX6_addFeature_81 : decode cX6_addFeature 81 = .ok (.iconst 1, 1) := by decide +kernel
theorem dX6_addFeature_82 : decode cX6_addFeature 82 = .ok (.isub, 1) := by decide +kernel
theorem dX6_addFeature_83 : decode cX6_addFeature 83 = .ok (.ireturn, 1) := by decide +kernel
set_option maxRecDepth 20000 in
theorem ggX6_put_X6_isFeature : GoodIn wsX6_put wsX6_isFeature := goodIn_r _ [7, 2, 8, 9, 6, 10, 28, 29, 30, 31, 32, 33, 34, 35, 36, 37, 38, 39, 40, 41] (by decide +kernel) (by decide +kernel)
set_option maxRecDepth 20000 in
theorem gX6_put_X6_isFeature : GoodIn wsX6_put (wsV RX6 37 RX6 yX6_isFeature wsX6_isFeature) := goodIn_app (goodIn_of _ (by decide +kernel)) ggX6_put_X6_isFeature
set_option maxRecDepth 20000 in
theorem ggX6_put_X6_isVersion : GoodIn wsX6_put wsX6_isVersion := goodIn_r _ [14, 2, 8, 9, 6, 10, 28, 29, 30, 31, 32, 33, 34, 35, 36, 37, 38, 39, 40, 41] (by decide +kernel) (by decide +kernel)
set_option maxRecDepth 20000 in
theorem gX6_put_X6_isVersion : GoodIn wsX6_put (wsV RX6 41 RX6 yX6_isVersion wsX6_isVersion) := goodIn_app (goodIn_of _ (by decide +kernel)) ggX6_put_X6_isVersion
set_option maxRecDepth 20000 in
theorem ggX6_put_X6_refused : GoodIn wsX6_put wsX6_refused := goodIn_r _ [18, 1, 28, 29, 30, 31, 32, 33, 34, 35, 36, 37, 38, 39, 40, 41] (by decide +kernel) (by decide +kernel)
set_option maxRecDepth 20000 in
theorem gX6_put_X6_refused : GoodIn wsX6_put (wsV RX6 30 RX6 yX6_refused wsX6_refused) := goodIn_app (goodIn_of _ (by decide +kernel)) ggX6_put_X6_refused
set_option maxRecDepth 20000 in
theorem ggX6_put_X6_has : GoodIn wsX6_put wsX6_has := goodIn_r _ [21] (by decide +kernel) (by decide +kernel)
set_option maxRecDepth 20000 in
theorem gX6_put_X6_has : GoodIn wsX6_put (va_wsS RX6 44 yX6_has wsX6_has) := goodIn_app (goodIn_of _ (by decide +kernel)) ggX6_put_X6_has
set_option maxRecDepth 20000 in
theorem ggX6_put_X6_save : GoodIn wsX6_put wsX6_save := goodIn_r _ [25, 26, 27, 2, 28, 29, 30, 31, 32, 33, 34, 35, 36, 37, 38, 39, 40, 41] (by decide +kernel) (by decide +kernel)
set_option maxRecDepth 20000 in
theorem gX6_put_X6_save : GoodIn wsX6_put (wsV RX6 34 RX6 yX6_save wsX6_save) := goodIn_app (goodIn_of _ (by decide +kernel)) ggX6_put_X6_save
theorem dX6_put_0 : decode cX6_put 0 = .ok (.aload_n 0, 1) := by decide +kernel
theorem dX6_put_1 : decode cX6_put 1 = .ok (.iconst 0, 1) := by decide +kernel
theorem dX6_put_2 : decode cX6_put 2 = .ok (.putfield 19, 3) := by decide +kernel
theorem dX6_put_5 : decode cX6_put 5 = .ok (.aload_n 0, 1) := by decide +kernel
theorem dX6_put_6 : decode cX6_put 6 = .ok (.iload_n 1, 1) := by decide +kernel
theorem dX6_put_7 : decode cX6_put 7 = .ok (.invokevirtual 37, 3) := by decide +kernel
theorem dX6_put_10 : decode cX6_put 10 = .ok (.ifCond .eq 11, 3) := by decide +kernel
theorem dX6_put_13 : decode cX6_put 13 = .ok (.aload_n 0, 1) := by decide +kernel
theorem dX6_put_14 : decode cX6_put 14 = .ok (.iload_n 2, 1) := by decide +kernel
theorem dX6_put_15 : decode cX6_put 15 = .ok (.invokevirtual 41, 3) := by decide +kernel
theorem dX6_put_18 : decode cX6_put 18 = .ok (.ifCond .ne 9, 3) := by decide +kernel
theorem dX6_put_21 : decode cX6_put 21 = .ok (.aload_n 0, 1) := by decide +kernel
theorem dX6_put_22 : decode cX6_put 22 = .ok (.iconst 1, 1) := by decide +kernel
theorem dX6_put_23 : decode cX6_put 23 = .ok (.invokevirtual 30, 3) := by decide +kernel
theorem dX6_put_26 : decode cX6_put 26 = .ok (.ireturn, 1) := by decide +kernel
theorem dX6_put_27 : decode cX6_put 27 = .ok (.bipush 28, 2) := by decide +kernel
theorem dX6_put_29 : decode cX6_put 29 = .ok (.iload_n 1, 1) := by decide +kernel
theorem dX6_put_30 : decode cX6_put 30 = .ok (.iadd, 1) := by decide +kernel
theorem dX6_put_31 : decode cX6_put 31 = .ok (.istore 4, 2) := by decide +kernel
theorem dX6_put_33 : decode cX6_put 33 = .ok (.aload_n 0, 1) := by decide +kernel
theorem dX6_put_34 : decode cX6_put 34 = .ok (.getfield 7, 3) := by decide +kernel
theorem dX6_put_37 : decode cX6_put 37 = .ok (.iload 4, 2) := by decide +kernel
theorem dX6_put_39 : decode cX6_put 39 = .ok (.iaload, 1) := by decide +kernel
theorem dX6_put_40 : decode cX6_put 40 = .ok (.iload_n 2, 1) := by decide +kernel
theorem dX6_put_41 : decode cX6_put 41 = .ok (.invokestatic 44, 3) := by decide +kernel
theorem dX6_put_44 : decode cX6_put 44 = .ok (.iload_n 3, 1) := by decide +kernel
theorem dX6_put_45 : decode cX6_put 45 = .ok (.if_icmp .ne 9, 3) := by decide +kernel
theorem dX6_put_48 : decode cX6_put 48 = .ok (.aload_n 0, 1) := by decide +kernel
theorem dX6_put_49 : decode cX6_put 49 = .ok (.iconst 2, 1) := by decide +kernel
theorem dX6_put_50 : decode cX6_put 50 = .ok (.invokevirtual 30, 3) := by decide +kernel
theorem dX6_put_53 : decode cX6_put 53 = .ok (.ireturn, 1) := by decide +kernel
theorem dX6_put_54 : decode cX6_put 54 = .ok (.aload_n 0, 1) := by decide +kernel
theorem dX6_put_55 : decode cX6_put 55 = .ok (.invokevirtual 34, 3) := by decide +kernel
theorem dX6_put_58 : decode cX6_put 58 = .ok (.aload_n 0, 1) := by decide +kernel
theorem dX6_put_59 : decode cX6_put 59 = .ok (.getfield 7, 3) := by decide +kernel
theorem dX6_put_62 : decode cX6_put 62 = .ok (.iload 4, 2) := by decide +kernel
theorem dX6_put_64 : decode cX6_put 64 = .ok (.iload_n 3, 1) := by decide +kernel
theorem dX6_put_65 : decode cX6_put 65 = .ok (.ifCond .eq 17, 3) := by decide +kernel
theorem dX6_put_68 : decode cX6_put 68 = .ok (.aload_n 0, 1) := by decide +kernel
theorem dX6_put_69 : decode cX6_put 69 = .ok (.getfield 7, 3) := by decide +kernel
theorem dX6_put_72 : decode cX6_put 72 = .ok (.iload 4, 2) := by decide +kernel
theorem dX6_put_74 : decode cX6_put 74 = .ok (.iaload, 1) := by decide +kernel
theorem dX6_put_75 : decode cX6_put 75 = .ok (.iconst 1, 1) := by decide +kernel
theorem dX6_put_76 : decode cX6_put 76 = .ok (.iload_n 2, 1) := by decide +kernel
theorem dX6_put_77 : decode cX6_put 77 = .ok (.ishl, 1) := by decide +kernel
theorem dX6_put_78 : decode cX6_put 78 = .ok (.ior, 1) := by decide +kernel
theorem dX6_put_79 : decode cX6_put 79 = .ok (.goto 16, 3) := by decide +kernel
theorem dX6_put_82 : decode cX6_put 82 = .ok (.aload_n 0, 1) := by decide +kernel
theorem dX6_put_83 : decode cX6_put 83 = .ok (.getfield 7, 3) := by decide +kernel
theorem dX6_put_86 : decode cX6_put 86 = .ok (.iload 4, 2) := by decide +kernel
theorem dX6_put_88 : decode cX6_put 88 = .ok (.iaload, 1) := by decide +kernel
theorem dX6_put_89 : decode cX6_put 89 = .ok (.iconst 1, 1) := by decide +kernel
theorem dX6_put_90 : decode cX6_put 90 = .ok (.iload_n 2, 1) := by decide +kernel
theorem dX6_put_91 : decode cX6_put 91 = .ok (.ishl, 1) := by decide +kernel
theorem dX6_put_92 : decode cX6_put 92 = .ok (.iconst (-1), 1) := by decide +kernel
theorem dX6_put_93 : decode cX6_put 93 = .ok (.ixor, 1) := by decide +kernel
theorem dX6_put_94 : decode cX6_put 94 = .ok (.iand, 1) := by decide +kernel
theorem dX6_put_95 : decode cX6_put 95 = .ok (.iastore, 1) := by decide +kernel
theorem dX6_put_96 : decode cX6_put 96 = .ok (.aload_n 0, 1) := by decide +kernel
theorem dX6_put_97 : decode cX6_put 97 = .ok (.getfield 7, 3) := by decide +kernel
theorem dX6_put_100 : decode cX6_put 100 = .ok (.iload 4, 2) := by decide +kernel
theorem dX6_put_102 : decode cX6_put 102 = .ok (.iaload, 1) := by decide +kernel
theorem dX6_put_103 : decode cX6_put 103 = .ok (.ireturn, 1) := by decide +kernel
set_option maxRecDepth 20000 in
theorem ggX6_addUser_X6_isVersion : GoodIn wsX6_addUser wsX6_isVersion := goodIn_r _ [7, 2, 8, 9, 6, 10, 21, 22, 23, 24, 25, 26, 27, 28, 29, 30, 31, 32, 33, 34] (by decide +kernel) (by decide +kernel)
set_option maxRecDepth 20000 in
theorem gX6_addUser_X6_isVersion : GoodIn wsX6_addUser (wsV RX6 41 RX6 yX6_isVersion wsX6_isVersion) := goodIn_app (goodIn_of _ (by decide +kernel)) ggX6_addUser_X6_isVersion
set_option maxRecDepth 20000 in
theorem ggX6_addUser_X6_refused : GoodIn wsX6_addUser wsX6_refused := goodIn_r _ [14, 1, 21, 22, 23, 24, 25, 26, 27, 28, 29, 30, 31, 32, 33, 34] (by decide +kernel) (by decide +kernel)
set_option maxRecDepth 20000 in
theorem gX6_addUser_X6_refused : GoodIn wsX6_addUser (wsV RX6 30 RX6 yX6_refused wsX6_refused) := goodIn_app (goodIn_of _ (by decide +kernel)) ggX6_addUser_X6_refused
set_option maxRecDepth 20000 in
theorem ggX6_addUser_X6_in : GoodIn wsX6_addUser wsX6_in := goodIn_r _ [10] (by decide +kernel) (by decide +kernel)
set_option maxRecDepth 20000 in
theorem gX6_addUser_X6_in : GoodIn wsX6_addUser (va_wsS RX6 23 yX6_in wsX6_in) := goodIn_app (goodIn_of _ (by decide +kernel)) ggX6_addUser_X6_in
set_option maxRecDepth 20000 in
theorem ggX6_addUser_X6_save : GoodIn wsX6_addUser wsX6_save := goodIn_r _ [18, 19, 20, 2, 21, 22, 23, 24, 25, 26, 27, 28, 29, 30, 31, 32, 33, 34] (by decide +kernel) (by decide +kernel)
set_option maxRecDepth 20000 in
theorem gX6_addUser_X6_save : GoodIn wsX6_addUser (wsV RX6 34 RX6 yX6_save wsX6_save) := goodIn_app (goodIn_of _ (by decide +kernel)) ggX6_addUser_X6_save
theorem dX6_addUser_0 : decode cX6_addUser 0 = .ok (.aload_n 0, 1) := by decide +kernel
theorem dX6_addUser_1 : decode cX6_addUser 1 = .ok (.iconst 0, 1) := by decide +kernel
theorem dX6_addUser_2 : decode cX6_addUser 2 = .ok (.putfield 19, 3) := by decide +kernel
theorem dX6_addUser_5 : decode cX6_addUser 5 = .ok (.aload_n 0, 1) := by decide +kernel
theorem dX6_addUser_6 : decode cX6_addUser 6 = .ok (.iload_n 1, 1) := by decide +kernel
theorem dX6_addUser_7 : decode cX6_addUser 7 = .ok (.invokevirtual 41, 3) := by decide +kernel
theorem dX6_addUser_10 : decode cX6_addUser 10 = .ok (.ifCond .ne 9, 3) := by decide +kernel
theorem dX6_addUser_13 : decode cX6_addUser 13 = .ok (.aload_n 0, 1) := by decide +kernel
theorem dX6_addUser_14 : decode cX6_addUser 14 = .ok (.iconst 1, 1) := by decide +kernel
theorem dX6_addUser_15 : decode cX6_addUser 15 = .ok (.invokevirtual 30, 3) := by decide +kernel
theorem dX6_addUser_18 : decode cX6_addUser 18 = .ok (.ireturn, 1) := by decide +kernel
theorem dX6_addUser_19 : decode cX6_addUser 19 = .ok (.iload_n 2, 1) := by decide +kernel
theorem dX6_addUser_20 : decode cX6_addUser 20 = .ok (.iconst 0, 1) := by decide +kernel
theorem dX6_addUser_21 : decode cX6_addUser 21 = .ok (.iconst 1, 1) := by decide +kernel
theorem dX6_addUser_22 : decode cX6_addUser 22 = .ok (.aload_n 0, 1) := by decide +kernel
theorem dX6_addUser_23 : decode cX6_addUser 23 = .ok (.getfield 7, 3) := by decide +kernel
theorem dX6_addUser_26 : decode cX6_addUser 26 = .ok (.iconst 1, 1) := by decide +kernel
theorem dX6_addUser_27 : decode cX6_addUser 27 = .ok (.iaload, 1) := by decide +kernel
theorem dX6_addUser_28 : decode cX6_addUser 28 = .ok (.ishl, 1) := by decide +kernel
theorem dX6_addUser_29 : decode cX6_addUser 29 = .ok (.iconst 1, 1) := by decide +kernel
theorem dX6_addUser_30 : decode cX6_addUser 30 = .ok (.isub, 1) := by decide +kernel
theorem dX6_addUser_31 : decode cX6_addUser 31 = .ok (.invokestatic 23, 3) := by decide +kernel
theorem dX6_addUser_34 : decode cX6_addUser 34 = .ok (.ifCond .ne 9, 3) := by decide +kernel
theorem dX6_addUser_37 : decode cX6_addUser 37 = .ok (.aload_n 0, 1) := by decide +kernel
theorem dX6_addUser_38 : decode cX6_addUser 38 = .ok (.iconst 2, 1) := by decide +kernel
theorem dX6_addUser_39 : decode cX6_addUser 39 = .ok (.invokevirtual 30, 3) := by decide +kernel
theorem dX6_addUser_42 : decode cX6_addUser 42 = .ok (.ireturn, 1) := by decide +kernel
theorem dX6_addUser_43 : decode cX6_addUser 43 = .ok (.aload_n 0, 1) := by decide +kernel
theorem dX6_addUser_44 : decode cX6_addUser 44 = .ok (.getfield 7, 3) := by decide +kernel
theorem dX6_addUser_47 : decode cX6_addUser 47 = .ok (.iconst 2, 1) := by decide +kernel
theorem dX6_addUser_48 : decode cX6_addUser 48 = .ok (.iaload, 1) := by decide +kernel
theorem dX6_addUser_49 : decode cX6_addUser 49 = .ok (.bipush 10, 2) := by decide +kernel
theorem dX6_addUser_51 : decode cX6_addUser 51 = .ok (.if_icmp .ne 9, 3) := by decide +kernel
theorem dX6_addUser_54 : decode cX6_addUser 54 = .ok (.aload_n 0, 1) := by decide +kernel
theorem dX6_addUser_55 : decode cX6_addUser 55 = .ok (.iconst 3, 1) := by decide +kernel
theorem dX6_addUser_56 : decode cX6_addUser 56 = .ok (.invokevirtual 30, 3) := by decide +kernel
theorem dX6_addUser_59 : decode cX6_addUser 59 = .ok (.ireturn, 1) := by decide +kernel
theorem dX6_addUser_60 : decode cX6_addUser 60 = .ok (.aload_n 0, 1) := by decide +kernel
theorem dX6_addUser_61 : decode cX6_addUser 61 = .ok (.invokevirtual 34, 3) := by decide +kernel
theorem dX6_addUser_64 : decode cX6_addUser 64 = .ok (.bipush 38, 2) := by decide +kernel
theorem dX6_addUser_66 : decode cX6_addUser 66 = .ok (.bipush 6, 2) := by decide +kernel
theorem dX6_addUser_68 : decode cX6_addUser 68 = .ok (.aload_n 0, 1) := by decide +kernel
theorem dX6_addUser_69 : decode cX6_addUser 69 = .ok (.getfield 7, 3) := by decide +kernel
theorem dX6_addUser_72 : decode cX6_addUser 72 = .ok (.iconst 2, 1) := by decide +kernel
theorem dX6_addUser_73 : decode cX6_addUser 73 = .ok (.iaload, 1) := by decide +kernel
theorem dX6_addUser_74 : decode cX6_addUser 74 = .ok (.imul, 1) := by decide +kernel
theorem dX6_addUser_75 : decode cX6_addUser 75 = .ok (.iadd, 1) := by decide +kernel
theorem dX6_addUser_76 : decode cX6_addUser 76 = .ok (.istore_n 3, 1) := by decide +kernel
theorem dX6_addUser_77 : decode cX6_addUser 77 = .ok (.aload_n 0, 1) := by decide +kernel
theorem dX6_addUser_78 : decode cX6_addUser 78 = .ok (.getfield 7, 3) := by decide +kernel
theorem dX6_addUser_81 : decode cX6_addUser 81 = .ok (.iload_n 3, 1) := by decide +kernel
theorem dX6_addUser_82 : decode cX6_addUser 82 = .ok (.iload_n 1, 1) := by decide +kernel
theorem dX6_addUser_83 : decode cX6_addUser 83 = .ok (.iastore, 1) := by decide +kernel
theorem dX6_addUser_84 : decode cX6_addUser 84 = .ok (.aload_n 0, 1) := by decide +kernel
theorem dX6_addUser_85 : decode cX6_addUser 85 = .ok (.getfield 7, 3) := by decide +kernel
theorem dX6_addUser_88 : decode cX6_addUser 88 = .ok (.iload_n 3, 1) := by decide +kernel
theorem dX6_addUser_89 : decode cX6_addUser 89 = .ok (.iconst 1, 1) := by decide +kernel
theorem dX6_addUser_90 : decode cX6_addUser 90 = .ok (.iadd, 1) := by decide +kernel
theorem dX6_addUser_91 : decode cX6_addUser 91 = .ok (.iload_n 2, 1) := by decide +kernel
theorem dX6_addUser_92 : decode cX6_addUser 92 = .ok (.iastore, 1) := by decide +kernel
theorem dX6_addUser_93 : decode cX6_addUser 93 = .ok (.aload_n 0, 1) := by decide +kernel
theorem dX6_addUser_94 : decode cX6_addUser 94 = .ok (.getfield 7, 3) := by decide +kernel
theorem dX6_addUser_97 : decode cX6_addUser 97 = .ok (.iload_n 3, 1) := by decide +kernel
theorem dX6_addUser_98 : decode cX6_addUser 98 = .ok (.iconst 2, 1) := by decide +kernel
theorem dX6_addUser_99 : decode cX6_addUser 99 = .ok (.iadd, 1) := by decide +kernel
theorem dX6_addUser_100 : decode cX6_addUser 100 = .ok (.iconst (-1), 1) := by decide +kernel
theorem dX6_addUser_101 : decode cX6_addUser 101 = .ok (.iastore, 1) := by decide +kernel
theorem dX6_addUser_102 : decode cX6_addUser 102 = .ok (.aload_n 0, 1) := by decide +kernel
theorem dX6_addUser_103 : decode cX6_addUser 103 = .ok (.getfield 7, 3) := by decide +kernel
theorem dX6_addUser_106 : decode cX6_addUser 106 = .ok (.iload_n 3, 1) := by decide +kernel
theorem dX6_addUser_107 : decode cX6_addUser 107 = .ok (.iconst 3, 1) := by decide +kernel
theorem dX6_addUser_108 : decode cX6_addUser 108 = .ok (.iadd, 1) := by decide +kernel
theorem dX6_addUser_109 : decode cX6_addUser 109 = .ok (.iconst (-1), 1) := by decide +kernel
theorem dX6_addUser_110 : decode cX6_addUser 110 = .ok (.iastore, 1) := by decide +kernel
theorem dX6_addUser_111 : decode cX6_addUser 111 = .ok (.aload_n 0, 1) := by decide +kernel
theorem dX6_addUser_112 : decode cX6_addUser 112 = .ok (.getfield 7, 3) := by decide +kernel
theorem dX6_addUser_115 : decode cX6_addUser 115 = .ok (.iload_n 3, 1) := by decide +kernel
theorem dX6_addUser_116 : decode cX6_addUser 116 = .ok (.iconst 4, 1) := by decide +kernel
theorem dX6_addUser_117 : decode cX6_addUser 117 = .ok (.iadd, 1) := by decide +kernel
theorem dX6_addUser_118 : decode cX6_addUser 118 = .ok (.iconst 0, 1) := by decide +kernel
theorem dX6_addUser_119 : decode cX6_addUser 119 = .ok (.iastore, 1) := by decide +kernel
theorem dX6_addUser_120 : decode cX6_addUser 120 = .ok (.aload_n 0, 1) := by decide +kernel
theorem dX6_addUser_121 : decode cX6_addUser 121 = .ok (.getfield 7, 3) := by decide +kernel
theorem dX6_addUser_124 : decode cX6_addUser 124 = .ok (.iload_n 3, 1) := by decide +kernel
theorem dX6_addUser_125 : decode cX6_addUser 125 = .ok (.iconst 5, 1) := by decide +kernel
theorem dX6_addUser_126 : decode cX6_addUser 126 = .ok (.iadd, 1) := by decide +kernel
theorem dX6_addUser_127 : decode cX6_addUser 127 = .ok (.iconst 0, 1) := by decide +kernel
theorem dX6_addUser_128 : decode cX6_addUser 128 = .ok (.iastore, 1) := by decide +kernel
theorem dX6_addUser_129 : decode cX6_addUser 129 = .ok (.aload_n 0, 1) := by decide +kernel
theorem dX6_addUser_130 : decode cX6_addUser 130 = .ok (.getfield 7, 3) := by decide +kernel
theorem dX6_addUser_133 : decode cX6_addUser 133 = .ok (.iconst 2, 1) := by decide +kernel
theorem dX6_addUser_134 : decode cX6_addUser 134 = .ok (.dup2, 1) := by decide +kernel
theorem dX6_addUser_135 : decode cX6_addUser 135 = .ok (.iaload, 1) := by decide +kernel
theorem dX6_addUser_136 : decode cX6_addUser 136 = .ok (.iconst 1, 1) := by decide +kernel
theorem dX6_addUser_137 : decode cX6_addUser 137 = .ok (.iadd, 1) := by decide +kernel
theorem dX6_addUser_138 : decode cX6_addUser 138 = .ok (.iastore, 1) := by decide +kernel
theorem dX6_addUser_139 : decode cX6_addUser 139 = .ok (.aload_n 0, 1) := by decide +kernel
theorem dX6_addUser_140 : decode cX6_addUser 140 = .ok (.getfield 7, 3) := by decide +kernel
theorem dX6_addUser_143 : decode cX6_addUser 143 = .ok (.iconst 2, 1) := by decide +kernel
theorem dX6_addUser_144 : decode cX6_addUser 144 = .ok (.iaload, 1) := by decide +kernel
theorem dX6_addUser_145 : decode cX6_addUser 145 = .ok (.iconst 1, 1) := by decide +kernel
theorem dX6_addUser_146 : decode cX6_addUser 146 = .ok (.isub, 1) := by decide +kernel
theorem dX6_addUser_147 : decode cX6_addUser 147 = .ok (.ireturn, 1) := by decide +kernel
set_option maxRecDepth 20000 in
theorem ggX6_pledgeRefused_X6_isUser : GoodIn wsX6_pledgeRefused wsX6_isUser := goodIn_r _ [5, 6, 7, 8, 4, 9, 17, 18, 19, 20, 21, 22, 23, 24, 25, 26, 27, 28, 29, 30] (by decide +kernel) (by decide +kernel)
set_option maxRecDepth 20000 in
theorem gX6_pledgeRefused_X6_isUser : GoodIn wsX6_pledgeRefused (wsV RX6 48 RX6 yX6_isUser wsX6_isUser) := goodIn_app (goodIn_of _ (by decide +kernel)) ggX6_pledgeRefused_X6_isUser
set_option maxRecDepth 20000 in
theorem ggX6_pledgeRefused_X6_isVersion : GoodIn wsX6_pledgeRefused wsX6_isVersion := goodIn_r _ [13, 6, 7, 8, 4, 9, 17, 18, 19, 20, 21, 22, 23, 24, 25, 26, 27, 28, 29, 30] (by decide +kernel) (by decide +kernel)
set_option maxRecDepth 20000 in
theorem gX6_pledgeRefused_X6_isVersion : GoodIn wsX6_pledgeRefused (wsV RX6 41 RX6 yX6_isVersion wsX6_isVersion) := goodIn_app (goodIn_of _ (by decide +kernel)) ggX6_pledgeRefused_X6_isVersion
set_option maxRecDepth 20000 in
theorem ggX6_pledgeRefused_X6_isDay : GoodIn wsX6_pledgeRefused wsX6_isDay := goodIn_r _ [16, 7, 8, 4, 9] (by decide +kernel) (by decide +kernel)
set_option maxRecDepth 20000 in
theorem gX6_pledgeRefused_X6_isDay : GoodIn wsX6_pledgeRefused (va_wsS RX6 51 yX6_isDay wsX6_isDay) := goodIn_app (goodIn_of _ (by decide +kernel)) ggX6_pledgeRefused_X6_isDay
theorem dX6_pledgeRefused_0 : decode cX6_pledgeRefused 0 = .ok (.aload_n 0, 1) := by decide +kernel
theorem dX6_pledgeRefused_1 : decode cX6_pledgeRefused 1 = .ok (.iload_n 1, 1) := by decide +kernel
theorem dX6_pledgeRefused_2 : decode cX6_pledgeRefused 2 = .ok (.invokevirtual 48, 3) := by decide +kernel
theorem dX6_pledgeRefused_5 : decode cX6_pledgeRefused 5 = .ok (.ifCond .eq 11, 3) := by decide +kernel
theorem dX6_pledgeRefused_8 : decode cX6_pledgeRefused 8 = .ok (.aload_n 0, 1) := by decide +kernel
theorem dX6_pledgeRefused_9 : decode cX6_pledgeRefused 9 = .ok (.iload_n 2, 1) := by decide +kernel
theorem dX6_pledgeRefused_10 : decode cX6_pledgeRefused 10 = .ok (.invokevirtual 41, 3) := by decide +kernel
theorem dX6_pledgeRefused_13 : decode cX6_pledgeRefused 13 = .ok (.ifCond .ne 7, 3) := by decide +kernel
theorem dX6_pledgeRefused_16 : decode cX6_pledgeRefused 16 = .ok (.iconst 1, 1) := by decide +kernel
theorem dX6_pledgeRefused_17 : decode cX6_pledgeRefused 17 = .ok (.goto 15, 3) := by decide +kernel
theorem dX6_pledgeRefused_20 : decode cX6_pledgeRefused 20 = .ok (.iload_n 3, 1) := by decide +kernel
theorem dX6_pledgeRefused_21 : decode cX6_pledgeRefused 21 = .ok (.invokestatic 51, 3) := by decide +kernel
theorem dX6_pledgeRefused_24 : decode cX6_pledgeRefused 24 = .ok (.ifCond .ne 7, 3) := by decide +kernel
theorem dX6_pledgeRefused_27 : decode cX6_pledgeRefused 27 = .ok (.iconst 2, 1) := by decide +kernel
theorem dX6_pledgeRefused_28 : decode cX6_pledgeRefused 28 = .ok (.goto 4, 3) := by decide +kernel
theorem dX6_pledgeRefused_31 : decode cX6_pledgeRefused 31 = .ok (.iconst 0, 1) := by decide +kernel
theorem dX6_pledgeRefused_32 : decode cX6_pledgeRefused 32 = .ok (.ireturn, 1) := by decide +kernel
theorem dX6_pledgeNow_0 : decode cX6_pledgeNow 0 = .ok (.bipush 38, 2) := by decide +kernel
theorem dX6_pledgeNow_2 : decode cX6_pledgeNow 2 = .ok (.bipush 6, 2) := by decide +kernel
theorem dX6_pledgeNow_4 : decode cX6_pledgeNow 4 = .ok (.iload_n 1, 1) := by decide +kernel
theorem dX6_pledgeNow_5 : decode cX6_pledgeNow 5 = .ok (.imul, 1) := by decide +kernel
theorem dX6_pledgeNow_6 : decode cX6_pledgeNow 6 = .ok (.iadd, 1) := by decide +kernel
theorem dX6_pledgeNow_7 : decode cX6_pledgeNow 7 = .ok (.istore 4, 2) := by decide +kernel
theorem dX6_pledgeNow_9 : decode cX6_pledgeNow 9 = .ok (.aload_n 0, 1) := by decide +kernel
theorem dX6_pledgeNow_10 : decode cX6_pledgeNow 10 = .ok (.getfield 7, 3) := by decide +kernel
theorem dX6_pledgeNow_13 : decode cX6_pledgeNow 13 = .ok (.iload 4, 2) := by decide +kernel
theorem dX6_pledgeNow_15 : decode cX6_pledgeNow 15 = .ok (.iconst 3, 1) := by decide +kernel
theorem dX6_pledgeNow_16 : decode cX6_pledgeNow 16 = .ok (.iadd, 1) := by decide +kernel
theorem dX6_pledgeNow_17 : decode cX6_pledgeNow 17 = .ok (.iaload, 1) := by decide +kernel
theorem dX6_pledgeNow_18 : decode cX6_pledgeNow 18 = .ok (.istore 5, 2) := by decide +kernel
theorem dX6_pledgeNow_20 : decode cX6_pledgeNow 20 = .ok (.aload_n 0, 1) := by decide +kernel
theorem dX6_pledgeNow_21 : decode cX6_pledgeNow 21 = .ok (.getfield 7, 3) := by decide +kernel
theorem dX6_pledgeNow_24 : decode cX6_pledgeNow 24 = .ok (.iload 4, 2) := by decide +kernel
theorem dX6_pledgeNow_26 : decode cX6_pledgeNow 26 = .ok (.iconst 2, 1) := by decide +kernel
theorem dX6_pledgeNow_27 : decode cX6_pledgeNow 27 = .ok (.iadd, 1) := by decide +kernel
theorem dX6_pledgeNow_28 : decode cX6_pledgeNow 28 = .ok (.iload_n 2, 1) := by decide +kernel
theorem dX6_pledgeNow_29 : decode cX6_pledgeNow 29 = .ok (.iastore, 1) := by decide +kernel
theorem dX6_pledgeNow_30 : decode cX6_pledgeNow 30 = .ok (.aload_n 0, 1) := by decide +kernel
theorem dX6_pledgeNow_31 : decode cX6_pledgeNow 31 = .ok (.getfield 7, 3) := by decide +kernel
theorem dX6_pledgeNow_34 : decode cX6_pledgeNow 34 = .ok (.iload 4, 2) := by decide +kernel
theorem dX6_pledgeNow_36 : decode cX6_pledgeNow 36 = .ok (.iconst 3, 1) := by decide +kernel
theorem dX6_pledgeNow_37 : decode cX6_pledgeNow 37 = .ok (.iadd, 1) := by decide +kernel
theorem dX6_pledgeNow_38 : decode cX6_pledgeNow 38 = .ok (.iload_n 3, 1) := by decide +kernel
theorem dX6_pledgeNow_39 : decode cX6_pledgeNow 39 = .ok (.iastore, 1) := by decide +kernel
theorem dX6_pledgeNow_40 : decode cX6_pledgeNow 40 = .ok (.iload 5, 2) := by decide +kernel
theorem dX6_pledgeNow_42 : decode cX6_pledgeNow 42 = .ok (.ireturn, 1) := by decide +kernel
set_option maxRecDepth 20000 in
theorem ggX6_pledge_X6_pledgeRefused : GoodIn wsX6_pledge wsX6_pledgeRefused := goodIn_r _ [6, 7, 8, 9, 5, 10, 11, 12, 13, 14, 15, 16, 17, 18, 19, 20, 21, 32, 33, 34, 35, 36, 37, 38, 39, 40, 41, 42, 43, 44, 45] (by decide +kernel) (by decide +kernel)
set_option maxRecDepth 20000 in
theorem gX6_pledge_X6_pledgeRefused : GoodIn wsX6_pledge (wsV RX6 54 RX6 yX6_pledgeRefused wsX6_pledgeRefused) := goodIn_app (goodIn_of _ (by decide +kernel)) ggX6_pledge_X6_pledgeRefused
set_option maxRecDepth 20000 in
theorem ggX6_pledge_X6_save : GoodIn wsX6_pledge wsX6_save := goodIn_r _ [25, 26, 27, 11, 32, 33, 34, 35, 36, 37, 38, 39, 40, 41, 42, 43, 44, 45] (by decide +kernel) (by decide +kernel)
set_option maxRecDepth 20000 in
theorem gX6_pledge_X6_save : GoodIn wsX6_pledge (wsV RX6 34 RX6 yX6_save wsX6_save) := goodIn_app (goodIn_of _ (by decide +kernel)) ggX6_pledge_X6_save
set_option maxRecDepth 20000 in
theorem ggX6_pledge_X6_pledgeNow : GoodIn wsX6_pledge wsX6_pledgeNow := goodIn_r _ [31, 11, 32, 33, 34, 35, 36, 37, 38, 39, 40, 41, 42, 43, 44, 45] (by decide +kernel) (by decide +kernel)
set_option maxRecDepth 20000 in
theorem gX6_pledge_X6_pledgeNow : GoodIn wsX6_pledge (wsV RX6 58 RX6 yX6_pledgeNow wsX6_pledgeNow) := goodIn_app (goodIn_of _ (by decide +kernel)) ggX6_pledge_X6_pledgeNow
theorem dX6_pledge_0 : decode cX6_pledge 0 = .ok (.aload_n 0, 1) := by decide +kernel
theorem dX6_pledge_1 : decode cX6_pledge 1 = .ok (.aload_n 0, 1) := by decide +kernel
theorem dX6_pledge_2 : decode cX6_pledge 2 = .ok (.iload_n 1, 1) := by decide +kernel
theorem dX6_pledge_3 : decode cX6_pledge 3 = .ok (.iload_n 2, 1) := by decide +kernel
theorem dX6_pledge_4 : decode cX6_pledge 4 = .ok (.iload_n 3, 1) := by decide +kernel
theorem dX6_pledge_5 : decode cX6_pledge 5 = .ok (.invokevirtual 54, 3) := by decide +kernel
theorem dX6_pledge_8 : decode cX6_pledge 8 = .ok (.putfield 19, 3) := by decide +kernel
theorem dX6_pledge_11 : decode cX6_pledge 11 = .ok (.aload_n 0, 1) := by decide +kernel
theorem dX6_pledge_12 : decode cX6_pledge 12 = .ok (.getfield 19, 3) := by decide +kernel
theorem dX6_pledge_15 : decode cX6_pledge 15 = .ok (.ifCond .le 5, 3) := by decide +kernel
theorem dX6_pledge_18 : decode cX6_pledge 18 = .ok (.iconst 0, 1) := by decide +kernel
theorem dX6_pledge_19 : decode cX6_pledge 19 = .ok (.ireturn, 1) := by decide +kernel
theorem dX6_pledge_20 : decode cX6_pledge 20 = .ok (.aload_n 0, 1) := by decide +kernel
theorem dX6_pledge_21 : decode cX6_pledge 21 = .ok (.invokevirtual 34, 3) := by decide +kernel
theorem dX6_pledge_24 : decode cX6_pledge 24 = .ok (.aload_n 0, 1) := by decide +kernel
theorem dX6_pledge_25 : decode cX6_pledge 25 = .ok (.iload_n 1, 1) := by decide +kernel
theorem dX6_pledge_26 : decode cX6_pledge 26 = .ok (.iload_n 2, 1) := by decide +kernel
theorem dX6_pledge_27 : decode cX6_pledge 27 = .ok (.iload_n 3, 1) := by decide +kernel
theorem dX6_pledge_28 : decode cX6_pledge 28 = .ok (.invokevirtual 58, 3) := by decide +kernel
theorem dX6_pledge_31 : decode cX6_pledge 31 = .ok (.ireturn, 1) := by decide +kernel
set_option maxRecDepth 20000 in
theorem ggX6_takeBack_X6_isUser : GoodIn wsX6_takeBack wsX6_isUser := goodIn_r _ [6, 7, 8, 9, 5, 10, 29, 30, 31, 32, 33, 34, 35, 36, 37, 38, 39, 40, 41, 42] (by decide +kernel) (by decide +kernel)
set_option maxRecDepth 20000 in
theorem gX6_takeBack_X6_isUser : GoodIn wsX6_takeBack (wsV RX6 48 RX6 yX6_isUser wsX6_isUser) := goodIn_app (goodIn_of _ (by decide +kernel)) ggX6_takeBack_X6_isUser
set_option maxRecDepth 20000 in
theorem ggX6_takeBack_X6_refused : GoodIn wsX6_takeBack wsX6_refused := goodIn_r _ [14, 1, 29, 30, 31, 32, 33, 34, 35, 36, 37, 38, 39, 40, 41, 42] (by decide +kernel) (by decide +kernel)
set_option maxRecDepth 20000 in
theorem gX6_takeBack_X6_refused : GoodIn wsX6_takeBack (wsV RX6 30 RX6 yX6_refused wsX6_refused) := goodIn_app (goodIn_of _ (by decide +kernel)) ggX6_takeBack_X6_refused
set_option maxRecDepth 20000 in
theorem ggX6_takeBack_X6_ofUser : GoodIn wsX6_takeBack wsX6_ofUser := goodIn_r _ [18, 7, 29, 30, 31, 32, 33, 34, 35, 36, 37, 38, 39, 40, 41, 42] (by decide +kernel) (by decide +kernel)
set_option maxRecDepth 20000 in
theorem gX6_takeBack_X6_ofUser : GoodIn wsX6_takeBack (wsV RX6 61 RX6 yX6_ofUser wsX6_ofUser) := goodIn_app (goodIn_of _ (by decide +kernel)) ggX6_takeBack_X6_ofUser
set_option maxRecDepth 20000 in
theorem ggX6_takeBack_X6_save : GoodIn wsX6_takeBack wsX6_save := goodIn_r _ [22, 23, 24, 7, 29, 30, 31, 32, 33, 34, 35, 36, 37, 38, 39, 40, 41, 42] (by decide +kernel) (by decide +kernel)
set_option maxRecDepth 20000 in
theorem gX6_takeBack_X6_save : GoodIn wsX6_takeBack (wsV RX6 34 RX6 yX6_save wsX6_save) := goodIn_app (goodIn_of _ (by decide +kernel)) ggX6_takeBack_X6_save
set_option maxRecDepth 20000 in
theorem ggX6_takeBack_X6_pledgeNow : GoodIn wsX6_takeBack wsX6_pledgeNow := goodIn_r _ [28, 7, 29, 30, 31, 32, 33, 34, 35, 36, 37, 38, 39, 40, 41, 42] (by decide +kernel) (by decide +kernel)
set_option maxRecDepth 20000 in
theorem gX6_takeBack_X6_pledgeNow : GoodIn wsX6_takeBack (wsV RX6 58 RX6 yX6_pledgeNow wsX6_pledgeNow) := goodIn_app (goodIn_of _ (by decide +kernel)) ggX6_takeBack_X6_pledgeNow
theorem dX6_takeBack_0 : decode cX6_takeBack 0 = .ok (.aload_n 0, 1) := by decide +kernel
theorem dX6_takeBack_1 : decode cX6_takeBack 1 = .ok (.iconst 0, 1) := by decide +kernel
theorem dX6_takeBack_2 : decode cX6_takeBack 2 = .ok (.putfield 19, 3) := by decide +kernel
theorem dX6_takeBack_5 : decode cX6_takeBack 5 = .ok (.aload_n 0, 1) := by decide +kernel
theorem dX6_takeBack_6 : decode cX6_takeBack 6 = .ok (.iload_n 1, 1) := by decide +kernel
theorem dX6_takeBack_7 : decode cX6_takeBack 7 = .ok (.invokevirtual 48, 3) := by decide +kernel
theorem dX6_takeBack_10 : decode cX6_takeBack 10 = .ok (.ifCond .ne 9, 3) := by decide +kernel
theorem dX6_takeBack_13 : decode cX6_takeBack 13 = .ok (.aload_n 0, 1) := by decide +kernel
theorem dX6_takeBack_14 : decode cX6_takeBack 14 = .ok (.iconst 1, 1) := by decide +kernel
theorem dX6_takeBack_15 : decode cX6_takeBack 15 = .ok (.invokevirtual 30, 3) := by decide +kernel
theorem dX6_takeBack_18 : decode cX6_takeBack 18 = .ok (.ireturn, 1) := by decide +kernel
theorem dX6_takeBack_19 : decode cX6_takeBack 19 = .ok (.aload_n 0, 1) := by decide +kernel
theorem dX6_takeBack_20 : decode cX6_takeBack 20 = .ok (.iload_n 1, 1) := by decide +kernel
theorem dX6_takeBack_21 : decode cX6_takeBack 21 = .ok (.iconst 2, 1) := by decide +kernel
theorem dX6_takeBack_22 : decode cX6_takeBack 22 = .ok (.invokevirtual 61, 3) := by decide +kernel
theorem dX6_takeBack_25 : decode cX6_takeBack 25 = .ok (.iconst (-1), 1) := by decide +kernel
theorem dX6_takeBack_26 : decode cX6_takeBack 26 = .ok (.if_icmp .ne 9, 3) := by decide +kernel
theorem dX6_takeBack_29 : decode cX6_takeBack 29 = .ok (.aload_n 0, 1) := by decide +kernel
theorem dX6_takeBack_30 : decode cX6_takeBack 30 = .ok (.iconst 2, 1) := by decide +kernel
theorem dX6_takeBack_31 : decode cX6_takeBack 31 = .ok (.invokevirtual 30, 3) := by decide +kernel
theorem dX6_takeBack_34 : decode cX6_takeBack 34 = .ok (.ireturn, 1) := by decide +kernel
theorem dX6_takeBack_35 : decode cX6_takeBack 35 = .ok (.aload_n 0, 1) := by decide +kernel
theorem dX6_takeBack_36 : decode cX6_takeBack 36 = .ok (.invokevirtual 34, 3) := by decide +kernel
theorem dX6_takeBack_39 : decode cX6_takeBack 39 = .ok (.aload_n 0, 1) := by decide +kernel
theorem dX6_takeBack_40 : decode cX6_takeBack 40 = .ok (.iload_n 1, 1) := by decide +kernel
theorem dX6_takeBack_41 : decode cX6_takeBack 41 = .ok (.iconst (-1), 1) := by decide +kernel
theorem dX6_takeBack_42 : decode cX6_takeBack 42 = .ok (.iconst (-1), 1) := by decide +kernel
theorem dX6_takeBack_43 : decode cX6_takeBack 43 = .ok (.invokevirtual 58, 3) := by decide +kernel
theorem dX6_takeBack_46 : decode cX6_takeBack 46 = .ok (.ireturn, 1) := by decide +kernel
set_option maxRecDepth 20000 in
theorem ggX6_slipRefused_X6_isUser : GoodIn wsX6_slipRefused wsX6_isUser := goodIn_r _ [5, 6, 7, 8, 4, 9, 14, 15, 16, 17, 18, 19, 20, 21, 22, 23, 24, 25, 26, 27] (by decide +kernel) (by decide +kernel)
set_option maxRecDepth 20000 in
theorem gX6_slipRefused_X6_isUser : GoodIn wsX6_slipRefused (wsV RX6 48 RX6 yX6_isUser wsX6_isUser) := goodIn_app (goodIn_of _ (by decide +kernel)) ggX6_slipRefused_X6_isUser
set_option maxRecDepth 20000 in
theorem ggX6_slipRefused_X6_in : GoodIn wsX6_slipRefused wsX6_in := goodIn_r _ [9] (by decide +kernel) (by decide +kernel)
set_option maxRecDepth 20000 in
theorem gX6_slipRefused_X6_in : GoodIn wsX6_slipRefused (va_wsS RX6 23 yX6_in wsX6_in) := goodIn_app (goodIn_of _ (by decide +kernel)) ggX6_slipRefused_X6_in
set_option maxRecDepth 20000 in
theorem ggX6_slipRefused_X6_ofUser : GoodIn wsX6_slipRefused wsX6_ofUser := goodIn_r _ [13, 6, 14, 15, 16, 17, 18, 19, 20, 21, 22, 23, 24, 25, 26, 27] (by decide +kernel) (by decide +kernel)
set_option maxRecDepth 20000 in
theorem gX6_slipRefused_X6_ofUser : GoodIn wsX6_slipRefused (wsV RX6 61 RX6 yX6_ofUser wsX6_ofUser) := goodIn_app (goodIn_of _ (by decide +kernel)) ggX6_slipRefused_X6_ofUser
theorem dX6_slipRefused_0 : decode cX6_slipRefused 0 = .ok (.aload_n 0, 1) := by decide +kernel
theorem dX6_slipRefused_1 : decode cX6_slipRefused 1 = .ok (.iload_n 1, 1) := by decide +kernel
theorem dX6_slipRefused_2 : decode cX6_slipRefused 2 = .ok (.invokevirtual 48, 3) := by decide +kernel
theorem dX6_slipRefused_5 : decode cX6_slipRefused 5 = .ok (.ifCond .ne 5, 3) := by decide +kernel
theorem dX6_slipRefused_8 : decode cX6_slipRefused 8 = .ok (.iconst 1, 1) := by decide +kernel
theorem dX6_slipRefused_9 : decode cX6_slipRefused 9 = .ok (.ireturn, 1) := by decide +kernel
theorem dX6_slipRefused_10 : decode cX6_slipRefused 10 = .ok (.iload_n 2, 1) := by decide +kernel
theorem dX6_slipRefused_11 : decode cX6_slipRefused 11 = .ok (.iconst 1, 1) := by decide +kernel
theorem dX6_slipRefused_12 : decode cX6_slipRefused 12 = .ok (.bipush 99, 2) := by decide +kernel
theorem dX6_slipRefused_14 : decode cX6_slipRefused 14 = .ok (.invokestatic 23, 3) := by decide +kernel
theorem dX6_slipRefused_17 : decode cX6_slipRefused 17 = .ok (.ifCond .ne 5, 3) := by decide +kernel
theorem dX6_slipRefused_20 : decode cX6_slipRefused 20 = .ok (.iconst 2, 1) := by decide +kernel
theorem dX6_slipRefused_21 : decode cX6_slipRefused 21 = .ok (.ireturn, 1) := by decide +kernel
theorem dX6_slipRefused_22 : decode cX6_slipRefused 22 = .ok (.aload_n 0, 1) := by decide +kernel
theorem dX6_slipRefused_23 : decode cX6_slipRefused 23 = .ok (.iload_n 1, 1) := by decide +kernel
theorem dX6_slipRefused_24 : decode cX6_slipRefused 24 = .ok (.iconst 2, 1) := by decide +kernel
theorem dX6_slipRefused_25 : decode cX6_slipRefused 25 = .ok (.invokevirtual 61, 3) := by decide +kernel
theorem dX6_slipRefused_28 : decode cX6_slipRefused 28 = .ok (.iconst (-1), 1) := by decide +kernel
theorem dX6_slipRefused_29 : decode cX6_slipRefused 29 = .ok (.if_icmp .eq 17, 3) := by decide +kernel
theorem dX6_slipRefused_32 : decode cX6_slipRefused 32 = .ok (.aload_n 0, 1) := by decide +kernel
theorem dX6_slipRefused_33 : decode cX6_slipRefused 33 = .ok (.iload_n 1, 1) := by decide +kernel
theorem dX6_slipRefused_34 : decode cX6_slipRefused 34 = .ok (.iconst 3, 1) := by decide +kernel
theorem dX6_slipRefused_35 : decode cX6_slipRefused 35 = .ok (.invokevirtual 61, 3) := by decide +kernel
theorem dX6_slipRefused_38 : decode cX6_slipRefused 38 = .ok (.iload_n 2, 1) := by decide +kernel
theorem dX6_slipRefused_39 : decode cX6_slipRefused 39 = .ok (.iadd, 1) := by decide +kernel
theorem dX6_slipRefused_40 : decode cX6_slipRefused 40 = .ok (.sipush 999, 3) := by decide +kernel
theorem dX6_slipRefused_43 : decode cX6_slipRefused 43 = .ok (.if_icmp .le 7, 3) := by decide +kernel
theorem dX6_slipRefused_46 : decode cX6_slipRefused 46 = .ok (.iconst 3, 1) := by decide +kernel
theorem dX6_slipRefused_47 : decode cX6_slipRefused 47 = .ok (.goto 4, 3) := by decide +kernel
theorem dX6_slipRefused_50 : decode cX6_slipRefused 50 = .ok (.iconst 0, 1) := by decide +kernel
theorem dX6_slipRefused_51 : decode cX6_slipRefused 51 = .ok (.ireturn, 1) := by decide +kernel
theorem dX6_slipNow_0 : decode cX6_slipNow 0 = .ok (.bipush 38, 2) := by decide +kernel
theorem dX6_slipNow_2 : decode cX6_slipNow 2 = .ok (.bipush 6, 2) := by decide +kernel
theorem dX6_slipNow_4 : decode cX6_slipNow 4 = .ok (.iload_n 1, 1) := by decide +kernel
theorem dX6_slipNow_5 : decode cX6_slipNow 5 = .ok (.imul, 1) := by decide +kernel
theorem dX6_slipNow_6 : decode cX6_slipNow 6 = .ok (.iadd, 1) := by decide +kernel
theorem dX6_slipNow_7 : decode cX6_slipNow 7 = .ok (.istore_n 3, 1) := by decide +kernel
theorem dX6_slipNow_8 : decode cX6_slipNow 8 = .ok (.aload_n 0, 1) := by decide +kernel
theorem dX6_slipNow_9 : decode cX6_slipNow 9 = .ok (.getfield 7, 3) := by decide +kernel
theorem dX6_slipNow_12 : decode cX6_slipNow 12 = .ok (.iload_n 3, 1) := by decide +kernel
theorem dX6_slipNow_13 : decode cX6_slipNow 13 = .ok (.iconst 3, 1) := by decide +kernel
theorem dX6_slipNow_14 : decode cX6_slipNow 14 = .ok (.iadd, 1) := by decide +kernel
theorem dX6_slipNow_15 : decode cX6_slipNow 15 = .ok (.dup2, 1) := by decide +kernel
theorem dX6_slipNow_16 : decode cX6_slipNow 16 = .ok (.iaload, 1) := by decide +kernel
theorem dX6_slipNow_17 : decode cX6_slipNow 17 = .ok (.iload_n 2, 1) := by decide +kernel
theorem dX6_slipNow_18 : decode cX6_slipNow 18 = .ok (.iadd, 1) := by decide +kernel
theorem dX6_slipNow_19 : decode cX6_slipNow 19 = .ok (.iastore, 1) := by decide +kernel
theorem dX6_slipNow_20 : decode cX6_slipNow 20 = .ok (.aload_n 0, 1) := by decide +kernel
theorem dX6_slipNow_21 : decode cX6_slipNow 21 = .ok (.getfield 7, 3) := by decide +kernel
theorem dX6_slipNow_24 : decode cX6_slipNow 24 = .ok (.iload_n 3, 1) := by decide +kernel
theorem dX6_slipNow_25 : decode cX6_slipNow 25 = .ok (.iconst 4, 1) := by decide +kernel
theorem dX6_slipNow_26 : decode cX6_slipNow 26 = .ok (.iadd, 1) := by decide +kernel
theorem dX6_slipNow_27 : decode cX6_slipNow 27 = .ok (.dup2, 1) := by decide +kernel
theorem dX6_slipNow_28 : decode cX6_slipNow 28 = .ok (.iaload, 1) := by decide +kernel
theorem dX6_slipNow_29 : decode cX6_slipNow 29 = .ok (.iconst 1, 1) := by decide +kernel
theorem dX6_slipNow_30 : decode cX6_slipNow 30 = .ok (.iadd, 1) := by decide +kernel
theorem dX6_slipNow_31 : decode cX6_slipNow 31 = .ok (.iastore, 1) := by decide +kernel
theorem dX6_slipNow_32 : decode cX6_slipNow 32 = .ok (.aload_n 0, 1) := by decide +kernel
theorem dX6_slipNow_33 : decode cX6_slipNow 33 = .ok (.getfield 7, 3) := by decide +kernel
theorem dX6_slipNow_36 : decode cX6_slipNow 36 = .ok (.iload_n 3, 1) := by decide +kernel
theorem dX6_slipNow_37 : decode cX6_slipNow 37 = .ok (.iconst 5, 1) := by decide +kernel
theorem dX6_slipNow_38 : decode cX6_slipNow 38 = .ok (.iadd, 1) := by decide +kernel
theorem dX6_slipNow_39 : decode cX6_slipNow 39 = .ok (.dup2, 1) := by decide +kernel
theorem dX6_slipNow_40 : decode cX6_slipNow 40 = .ok (.iaload, 1) := by decide +kernel
theorem dX6_slipNow_41 : decode cX6_slipNow 41 = .ok (.iload_n 2, 1) := by decide +kernel
theorem dX6_slipNow_42 : decode cX6_slipNow 42 = .ok (.iadd, 1) := by decide +kernel
theorem dX6_slipNow_43 : decode cX6_slipNow 43 = .ok (.iastore, 1) := by decide +kernel
theorem dX6_slipNow_44 : decode cX6_slipNow 44 = .ok (.aload_n 0, 1) := by decide +kernel
theorem dX6_slipNow_45 : decode cX6_slipNow 45 = .ok (.getfield 7, 3) := by decide +kernel
theorem dX6_slipNow_48 : decode cX6_slipNow 48 = .ok (.iload_n 3, 1) := by decide +kernel
theorem dX6_slipNow_49 : decode cX6_slipNow 49 = .ok (.iconst 3, 1) := by decide +kernel
theorem dX6_slipNow_50 : decode cX6_slipNow 50 = .ok (.iadd, 1) := by decide +kernel
theorem dX6_slipNow_51 : decode cX6_slipNow 51 = .ok (.iaload, 1) := by decide +kernel
theorem dX6_slipNow_52 : decode cX6_slipNow 52 = .ok (.ireturn, 1) := by decide +kernel
set_option maxRecDepth 20000 in
theorem ggX6_slip_X6_slipRefused : GoodIn wsX6_slip wsX6_slipRefused := goodIn_r _ [6, 7, 8, 9, 5, 10, 11, 12, 13, 14, 15, 16, 17, 18, 29, 30, 31, 32, 33, 34, 35, 36, 37, 38, 39, 40, 41, 42] (by decide +kernel) (by decide +kernel)
set_option maxRecDepth 20000 in
theorem gX6_slip_X6_slipRefused : GoodIn wsX6_slip (wsV RX6 65 RX6 yX6_slipRefused wsX6_slipRefused) := goodIn_app (goodIn_of _ (by decide +kernel)) ggX6_slip_X6_slipRefused
set_option maxRecDepth 20000 in
theorem ggX6_slip_X6_save : GoodIn wsX6_slip wsX6_save := goodIn_r _ [22, 23, 24, 11, 29, 30, 31, 32, 33, 34, 35, 36, 37, 38, 39, 40, 41, 42] (by decide +kernel) (by decide +kernel)
set_option maxRecDepth 20000 in
theorem gX6_slip_X6_save : GoodIn wsX6_slip (wsV RX6 34 RX6 yX6_save wsX6_save) := goodIn_app (goodIn_of _ (by decide +kernel)) ggX6_slip_X6_save
set_option maxRecDepth 20000 in
theorem ggX6_slip_X6_slipNow : GoodIn wsX6_slip wsX6_slipNow := goodIn_r _ [28, 11, 29, 30, 31, 32, 33, 34, 35, 36, 37, 38, 39, 40, 41, 42] (by decide +kernel) (by decide +kernel)
set_option maxRecDepth 20000 in
theorem gX6_slip_X6_slipNow : GoodIn wsX6_slip (wsV RX6 68 RX6 yX6_slipNow wsX6_slipNow) := goodIn_app (goodIn_of _ (by decide +kernel)) ggX6_slip_X6_slipNow
theorem dX6_slip_0 : decode cX6_slip 0 = .ok (.aload_n 0, 1) := by decide +kernel
theorem dX6_slip_1 : decode cX6_slip 1 = .ok (.aload_n 0, 1) := by decide +kernel
theorem dX6_slip_2 : decode cX6_slip 2 = .ok (.iload_n 1, 1) := by decide +kernel
theorem dX6_slip_3 : decode cX6_slip 3 = .ok (.iload_n 2, 1) := by decide +kernel
theorem dX6_slip_4 : decode cX6_slip 4 = .ok (.invokevirtual 65, 3) := by decide +kernel
theorem dX6_slip_7 : decode cX6_slip 7 = .ok (.putfield 19, 3) := by decide +kernel
theorem dX6_slip_10 : decode cX6_slip 10 = .ok (.aload_n 0, 1) := by decide +kernel
theorem dX6_slip_11 : decode cX6_slip 11 = .ok (.getfield 19, 3) := by decide +kernel
theorem dX6_slip_14 : decode cX6_slip 14 = .ok (.ifCond .le 5, 3) := by decide +kernel
theorem dX6_slip_17 : decode cX6_slip 17 = .ok (.iconst 0, 1) := by decide +kernel
theorem dX6_slip_18 : decode cX6_slip 18 = .ok (.ireturn, 1) := by decide +kernel
theorem dX6_slip_19 : decode cX6_slip 19 = .ok (.aload_n 0, 1) := by decide +kernel
theorem dX6_slip_20 : decode cX6_slip 20 = .ok (.invokevirtual 34, 3) := by decide +kernel
theorem dX6_slip_23 : decode cX6_slip 23 = .ok (.aload_n 0, 1) := by decide +kernel
theorem dX6_slip_24 : decode cX6_slip 24 = .ok (.iload_n 1, 1) := by decide +kernel
theorem dX6_slip_25 : decode cX6_slip 25 = .ok (.iload_n 2, 1) := by decide +kernel
theorem dX6_slip_26 : decode cX6_slip 26 = .ok (.invokevirtual 68, 3) := by decide +kernel
theorem dX6_slip_29 : decode cX6_slip 29 = .ok (.ireturn, 1) := by decide +kernel
set_option maxRecDepth 20000 in
theorem ggX6_extendRefused_X6_isVersion : GoodIn wsX6_extendRefused wsX6_isVersion := goodIn_r _ [5, 6, 7, 8, 4, 9, 14, 15, 16, 17, 18, 19, 20, 21, 22, 23, 24, 25, 26, 27] (by decide +kernel) (by decide +kernel)
set_option maxRecDepth 20000 in
theorem gX6_extendRefused_X6_isVersion : GoodIn wsX6_extendRefused (wsV RX6 41 RX6 yX6_isVersion wsX6_isVersion) := goodIn_app (goodIn_of _ (by decide +kernel)) ggX6_extendRefused_X6_isVersion
set_option maxRecDepth 20000 in
theorem ggX6_extendRefused_X6_in : GoodIn wsX6_extendRefused wsX6_in := goodIn_r _ [9] (by decide +kernel) (by decide +kernel)
set_option maxRecDepth 20000 in
theorem gX6_extendRefused_X6_in : GoodIn wsX6_extendRefused (va_wsS RX6 23 yX6_in wsX6_in) := goodIn_app (goodIn_of _ (by decide +kernel)) ggX6_extendRefused_X6_in
set_option maxRecDepth 20000 in
theorem ggX6_extendRefused_X6_end : GoodIn wsX6_extendRefused wsX6_end := goodIn_r _ [13, 6, 14, 15, 16, 17, 18, 19, 20, 21, 22, 23, 24, 25, 26, 27] (by decide +kernel) (by decide +kernel)
set_option maxRecDepth 20000 in
theorem gX6_extendRefused_X6_end : GoodIn wsX6_extendRefused (wsV RX6 71 RX6 yX6_end wsX6_end) := goodIn_app (goodIn_of _ (by decide +kernel)) ggX6_extendRefused_X6_end
theorem dX6_extendRefused_0 : decode cX6_extendRefused 0 = .ok (.aload_n 0, 1) := by decide +kernel
theorem dX6_extendRefused_1 : decode cX6_extendRefused 1 = .ok (.iload_n 1, 1) := by decide +kernel
theorem dX6_extendRefused_2 : decode cX6_extendRefused 2 = .ok (.invokevirtual 41, 3) := by decide +kernel
theorem dX6_extendRefused_5 : decode cX6_extendRefused 5 = .ok (.ifCond .ne 7, 3) := by decide +kernel
theorem dX6_extendRefused_8 : decode cX6_extendRefused 8 = .ok (.iconst 1, 1) := by decide +kernel
theorem dX6_extendRefused_9 : decode cX6_extendRefused 9 = .ok (.goto 35, 3) := by decide +kernel
theorem dX6_extendRefused_12 : decode cX6_extendRefused 12 = .ok (.iload_n 2, 1) := by decide +kernel
theorem dX6_extendRefused_13 : decode cX6_extendRefused 13 = .ok (.iconst 1, 1) := by decide +kernel
theorem dX6_extendRefused_14 : decode cX6_extendRefused 14 = .ok (.bipush 99, 2) := by decide +kernel
theorem dX6_extendRefused_16 : decode cX6_extendRefused 16 = .ok (.invokestatic 23, 3) := by decide +kernel
theorem dX6_extendRefused_19 : decode cX6_extendRefused 19 = .ok (.ifCond .ne 7, 3) := by decide +kernel
theorem dX6_extendRefused_22 : decode cX6_extendRefused 22 = .ok (.iconst 2, 1) := by decide +kernel
theorem dX6_extendRefused_23 : decode cX6_extendRefused 23 = .ok (.goto 21, 3) := by decide +kernel
theorem dX6_extendRefused_26 : decode cX6_extendRefused 26 = .ok (.aload_n 0, 1) := by decide +kernel
theorem dX6_extendRefused_27 : decode cX6_extendRefused 27 = .ok (.iload_n 1, 1) := by decide +kernel
theorem dX6_extendRefused_28 : decode cX6_extendRefused 28 = .ok (.invokevirtual 71, 3) := by decide +kernel
theorem dX6_extendRefused_31 : decode cX6_extendRefused 31 = .ok (.iload_n 2, 1) := by decide +kernel
theorem dX6_extendRefused_32 : decode cX6_extendRefused 32 = .ok (.iadd, 1) := by decide +kernel
theorem dX6_extendRefused_33 : decode cX6_extendRefused 33 = .ok (.sipush 1000, 3) := by decide +kernel
theorem dX6_extendRefused_36 : decode cX6_extendRefused 36 = .ok (.if_icmp .le 7, 3) := by decide +kernel
theorem dX6_extendRefused_39 : decode cX6_extendRefused 39 = .ok (.iconst 3, 1) := by decide +kernel
theorem dX6_extendRefused_40 : decode cX6_extendRefused 40 = .ok (.goto 4, 3) := by decide +kernel
theorem dX6_extendRefused_43 : decode cX6_extendRefused 43 = .ok (.iconst 0, 1) := by decide +kernel
theorem dX6_extendRefused_44 : decode cX6_extendRefused 44 = .ok (.ireturn, 1) := by decide +kernel
theorem dX6_extendNow_0 : decode cX6_extendNow 0 = .ok (.iconst 4, 1) := by decide +kernel
theorem dX6_extendNow_1 : decode cX6_extendNow 1 = .ok (.iconst 3, 1) := by decide +kernel
theorem dX6_extendNow_2 : decode cX6_extendNow 2 = .ok (.iload_n 1, 1) := by decide +kernel
theorem dX6_extendNow_3 : decode cX6_extendNow 3 = .ok (.imul, 1) := by decide +kernel
theorem dX6_extendNow_4 : decode cX6_extendNow 4 = .ok (.iadd, 1) := by decide +kernel
theorem dX6_extendNow_5 : decode cX6_extendNow 5 = .ok (.istore_n 3, 1) := by decide +kernel
theorem dX6_extendNow_6 : decode cX6_extendNow 6 = .ok (.aload_n 0, 1) := by decide +kernel
theorem dX6_extendNow_7 : decode cX6_extendNow 7 = .ok (.getfield 7, 3) := by decide +kernel
theorem dX6_extendNow_10 : decode cX6_extendNow 10 = .ok (.iload_n 3, 1) := by decide +kernel
theorem dX6_extendNow_11 : decode cX6_extendNow 11 = .ok (.iconst 1, 1) := by decide +kernel
theorem dX6_extendNow_12 : decode cX6_extendNow 12 = .ok (.iadd, 1) := by decide +kernel
theorem dX6_extendNow_13 : decode cX6_extendNow 13 = .ok (.dup2, 1) := by decide +kernel
theorem dX6_extendNow_14 : decode cX6_extendNow 14 = .ok (.iaload, 1) := by decide +kernel
theorem dX6_extendNow_15 : decode cX6_extendNow 15 = .ok (.iload_n 2, 1) := by decide +kernel
theorem dX6_extendNow_16 : decode cX6_extendNow 16 = .ok (.iadd, 1) := by decide +kernel
theorem dX6_extendNow_17 : decode cX6_extendNow 17 = .ok (.iastore, 1) := by decide +kernel
theorem dX6_extendNow_18 : decode cX6_extendNow 18 = .ok (.aload_n 0, 1) := by decide +kernel
theorem dX6_extendNow_19 : decode cX6_extendNow 19 = .ok (.getfield 7, 3) := by decide +kernel
theorem dX6_extendNow_22 : decode cX6_extendNow 22 = .ok (.iload_n 3, 1) := by decide +kernel
theorem dX6_extendNow_23 : decode cX6_extendNow 23 = .ok (.iconst 2, 1) := by decide +kernel
theorem dX6_extendNow_24 : decode cX6_extendNow 24 = .ok (.iadd, 1) := by decide +kernel
theorem dX6_extendNow_25 : decode cX6_extendNow 25 = .ok (.dup2, 1) := by decide +kernel
theorem dX6_extendNow_26 : decode cX6_extendNow 26 = .ok (.iaload, 1) := by decide +kernel
theorem dX6_extendNow_27 : decode cX6_extendNow 27 = .ok (.iload_n 2, 1) := by decide +kernel
theorem dX6_extendNow_28 : decode cX6_extendNow 28 = .ok (.iadd, 1) := by decide +kernel
theorem dX6_extendNow_29 : decode cX6_extendNow 29 = .ok (.iastore, 1) := by decide +kernel
theorem dX6_extendNow_30 : decode cX6_extendNow 30 = .ok (.aload_n 0, 1) := by decide +kernel
theorem dX6_extendNow_31 : decode cX6_extendNow 31 = .ok (.getfield 7, 3) := by decide +kernel
theorem dX6_extendNow_34 : decode cX6_extendNow 34 = .ok (.iload_n 3, 1) := by decide +kernel
theorem dX6_extendNow_35 : decode cX6_extendNow 35 = .ok (.iconst 1, 1) := by decide +kernel
theorem dX6_extendNow_36 : decode cX6_extendNow 36 = .ok (.iadd, 1) := by decide +kernel
theorem dX6_extendNow_37 : decode cX6_extendNow 37 = .ok (.iaload, 1) := by decide +kernel
theorem dX6_extendNow_38 : decode cX6_extendNow 38 = .ok (.ireturn, 1) := by decide +kernel
set_option maxRecDepth 20000 in
theorem ggX6_extend_X6_extendRefused : GoodIn wsX6_extend wsX6_extendRefused := goodIn_r _ [6, 7, 8, 9, 5, 10, 11, 12, 13, 14, 15, 16, 17, 18, 29, 30, 31, 32, 33, 34, 35, 36, 37, 38, 39, 40, 41, 42] (by decide +kernel) (by decide +kernel)
set_option maxRecDepth 20000 in
theorem gX6_extend_X6_extendRefused : GoodIn wsX6_extend (wsV RX6 74 RX6 yX6_extendRefused wsX6_extendRefused) := goodIn_app (goodIn_of _ (by decide +kernel)) ggX6_extend_X6_extendRefused
set_option maxRecDepth 20000 in
theorem ggX6_extend_X6_save : GoodIn wsX6_extend wsX6_save := goodIn_r _ [22, 23, 24, 11, 29, 30, 31, 32, 33, 34, 35, 36, 37, 38, 39, 40, 41, 42] (by decide +kernel) (by decide +kernel)
set_option maxRecDepth 20000 in
theorem gX6_extend_X6_save : GoodIn wsX6_extend (wsV RX6 34 RX6 yX6_save wsX6_save) := goodIn_app (goodIn_of _ (by decide +kernel)) ggX6_extend_X6_save
set_option maxRecDepth 20000 in
theorem ggX6_extend_X6_extendNow : GoodIn wsX6_extend wsX6_extendNow := goodIn_r _ [28, 11, 29, 30, 31, 32, 33, 34, 35, 36, 37, 38, 39, 40, 41, 42] (by decide +kernel) (by decide +kernel)
set_option maxRecDepth 20000 in
theorem gX6_extend_X6_extendNow : GoodIn wsX6_extend (wsV RX6 77 RX6 yX6_extendNow wsX6_extendNow) := goodIn_app (goodIn_of _ (by decide +kernel)) ggX6_extend_X6_extendNow
theorem dX6_extend_0 : decode cX6_extend 0 = .ok (.aload_n 0, 1) := by decide +kernel
theorem dX6_extend_1 : decode cX6_extend 1 = .ok (.aload_n 0, 1) := by decide +kernel
theorem dX6_extend_2 : decode cX6_extend 2 = .ok (.iload_n 1, 1) := by decide +kernel
theorem dX6_extend_3 : decode cX6_extend 3 = .ok (.iload_n 2, 1) := by decide +kernel
theorem dX6_extend_4 : decode cX6_extend 4 = .ok (.invokevirtual 74, 3) := by decide +kernel
theorem dX6_extend_7 : decode cX6_extend 7 = .ok (.putfield 19, 3) := by decide +kernel
theorem dX6_extend_10 : decode cX6_extend 10 = .ok (.aload_n 0, 1) := by decide +kernel
theorem dX6_extend_11 : decode cX6_extend 11 = .ok (.getfield 19, 3) := by decide +kernel
theorem dX6_extend_14 : decode cX6_extend 14 = .ok (.ifCond .le 5, 3) := by decide +kernel
theorem dX6_extend_17 : decode cX6_extend 17 = .ok (.iconst 0, 1) := by decide +kernel
theorem dX6_extend_18 : decode cX6_extend 18 = .ok (.ireturn, 1) := by decide +kernel
theorem dX6_extend_19 : decode cX6_extend 19 = .ok (.aload_n 0, 1) := by decide +kernel
theorem dX6_extend_20 : decode cX6_extend 20 = .ok (.invokevirtual 34, 3) := by decide +kernel
theorem dX6_extend_23 : decode cX6_extend 23 = .ok (.aload_n 0, 1) := by decide +kernel
theorem dX6_extend_24 : decode cX6_extend 24 = .ok (.iload_n 1, 1) := by decide +kernel
theorem dX6_extend_25 : decode cX6_extend 25 = .ok (.iload_n 2, 1) := by decide +kernel
theorem dX6_extend_26 : decode cX6_extend 26 = .ok (.invokevirtual 77, 3) := by decide +kernel
theorem dX6_extend_29 : decode cX6_extend 29 = .ok (.ireturn, 1) := by decide +kernel
set_option maxRecDepth 20000 in
theorem ggX6_shimRefused_X6_isFeature : GoodIn wsX6_shimRefused wsX6_isFeature := goodIn_r _ [6, 1, 7, 8, 5, 9, 17, 18, 19, 20, 21, 22, 23, 24, 25, 26, 27, 28, 29, 30] (by decide +kernel) (by decide +kernel)
set_option maxRecDepth 20000 in
theorem gX6_shimRefused_X6_isFeature : GoodIn wsX6_shimRefused (wsV RX6 37 RX6 yX6_isFeature wsX6_isFeature) := goodIn_app (goodIn_of _ (by decide +kernel)) ggX6_shimRefused_X6_isFeature
set_option maxRecDepth 20000 in
theorem ggX6_shimRefused_X6_isVersion : GoodIn wsX6_shimRefused wsX6_isVersion := goodIn_r _ [13, 1, 7, 8, 5, 9, 17, 18, 19, 20, 21, 22, 23, 24, 25, 26, 27, 28, 29, 30] (by decide +kernel) (by decide +kernel)
set_option maxRecDepth 20000 in
theorem gX6_shimRefused_X6_isVersion : GoodIn wsX6_shimRefused (wsV RX6 41 RX6 yX6_isVersion wsX6_isVersion) := goodIn_app (goodIn_of _ (by decide +kernel)) ggX6_shimRefused_X6_isVersion
set_option maxRecDepth 20000 in
theorem ggX6_shimRefused_X6_isDay : GoodIn wsX6_shimRefused wsX6_isDay := goodIn_r _ [16, 7, 8, 5, 9] (by decide +kernel) (by decide +kernel)
set_option maxRecDepth 20000 in
theorem gX6_shimRefused_X6_isDay : GoodIn wsX6_shimRefused (va_wsS RX6 51 yX6_isDay wsX6_isDay) := goodIn_app (goodIn_of _ (by decide +kernel)) ggX6_shimRefused_X6_isDay
set_option maxRecDepth 20000 in
theorem ggX6_shimRefused_X6_in : GoodIn wsX6_shimRefused wsX6_in := goodIn_r _ [9] (by decide +kernel) (by decide +kernel)
set_option maxRecDepth 20000 in
theorem gX6_shimRefused_X6_in : GoodIn wsX6_shimRefused (va_wsS RX6 23 yX6_in wsX6_in) := goodIn_app (goodIn_of _ (by decide +kernel)) ggX6_shimRefused_X6_in
theorem dX6_shimRefused_0 : decode cX6_shimRefused 0 = .ok (.aload_n 0, 1) := by decide +kernel
theorem dX6_shimRefused_1 : decode cX6_shimRefused 1 = .ok (.iload_n 1, 1) := by decide +kernel
theorem dX6_shimRefused_2 : decode cX6_shimRefused 2 = .ok (.invokevirtual 37, 3) := by decide +kernel
theorem dX6_shimRefused_5 : decode cX6_shimRefused 5 = .ok (.ifCond .eq 11, 3) := by decide +kernel
theorem dX6_shimRefused_8 : decode cX6_shimRefused 8 = .ok (.aload_n 0, 1) := by decide +kernel
theorem dX6_shimRefused_9 : decode cX6_shimRefused 9 = .ok (.iload_n 2, 1) := by decide +kernel
theorem dX6_shimRefused_10 : decode cX6_shimRefused 10 = .ok (.invokevirtual 41, 3) := by decide +kernel
theorem dX6_shimRefused_13 : decode cX6_shimRefused 13 = .ok (.ifCond .ne 5, 3) := by decide +kernel
theorem dX6_shimRefused_16 : decode cX6_shimRefused 16 = .ok (.iconst 1, 1) := by decide +kernel
theorem dX6_shimRefused_17 : decode cX6_shimRefused 17 = .ok (.ireturn, 1) := by decide +kernel
theorem dX6_shimRefused_18 : decode cX6_shimRefused 18 = .ok (.iload_n 3, 1) := by decide +kernel
theorem dX6_shimRefused_19 : decode cX6_shimRefused 19 = .ok (.invokestatic 51, 3) := by decide +kernel
theorem dX6_shimRefused_22 : decode cX6_shimRefused 22 = .ok (.ifCond .eq 26, 3) := by decide +kernel
theorem dX6_shimRefused_25 : decode cX6_shimRefused 25 = .ok (.iload 4, 2) := by decide +kernel
theorem dX6_shimRefused_27 : decode cX6_shimRefused 27 = .ok (.iload_n 3, 1) := by decide +kernel
theorem dX6_shimRefused_28 : decode cX6_shimRefused 28 = .ok (.sipush 999, 3) := by decide +kernel
theorem dX6_shimRefused_31 : decode cX6_shimRefused 31 = .ok (.invokestatic 23, 3) := by decide +kernel
theorem dX6_shimRefused_34 : decode cX6_shimRefused 34 = .ok (.ifCond .eq 14, 3) := by decide +kernel
theorem dX6_shimRefused_37 : decode cX6_shimRefused 37 = .ok (.iload 5, 2) := by decide +kernel
theorem dX6_shimRefused_39 : decode cX6_shimRefused 39 = .ok (.iconst 1, 1) := by decide +kernel
theorem dX6_shimRefused_40 : decode cX6_shimRefused 40 = .ok (.bipush 99, 2) := by decide +kernel
theorem dX6_shimRefused_42 : decode cX6_shimRefused 42 = .ok (.invokestatic 23, 3) := by decide +kernel
theorem dX6_shimRefused_45 : decode cX6_shimRefused 45 = .ok (.ifCond .ne 5, 3) := by decide +kernel
theorem dX6_shimRefused_48 : decode cX6_shimRefused 48 = .ok (.iconst 2, 1) := by decide +kernel
theorem dX6_shimRefused_49 : decode cX6_shimRefused 49 = .ok (.ireturn, 1) := by decide +kernel
theorem dX6_shimRefused_50 : decode cX6_shimRefused 50 = .ok (.aload_n 0, 1) := by decide +kernel
theorem dX6_shimRefused_51 : decode cX6_shimRefused 51 = .ok (.getfield 7, 3) := by decide +kernel
theorem dX6_shimRefused_54 : decode cX6_shimRefused 54 = .ok (.iconst 3, 1) := by decide +kernel
theorem dX6_shimRefused_55 : decode cX6_shimRefused 55 = .ok (.iaload, 1) := by decide +kernel
theorem dX6_shimRefused_56 : decode cX6_shimRefused 56 = .ok (.bipush 12, 2) := by decide +kernel
theorem dX6_shimRefused_58 : decode cX6_shimRefused 58 = .ok (.if_icmp .ne 7, 3) := by decide +kernel
theorem dX6_shimRefused_61 : decode cX6_shimRefused 61 = .ok (.iconst 3, 1) := by decide +kernel
theorem dX6_shimRefused_62 : decode cX6_shimRefused 62 = .ok (.goto 4, 3) := by decide +kernel
theorem dX6_shimRefused_65 : decode cX6_shimRefused 65 = .ok (.iconst 0, 1) := by decide +kernel
theorem dX6_shimRefused_66 : decode cX6_shimRefused 66 = .ok (.ireturn, 1) := by decide +kernel
theorem dX6_shimNow_0 : decode cX6_shimNow 0 = .ok (.bipush 98, 2) := by decide +kernel
theorem dX6_shimNow_2 : decode cX6_shimNow 2 = .ok (.iconst 5, 1) := by decide +kernel
theorem dX6_shimNow_3 : decode cX6_shimNow 3 = .ok (.aload_n 0, 1) := by decide +kernel
theorem dX6_shimNow_4 : decode cX6_shimNow 4 = .ok (.getfield 7, 3) := by decide +kernel
theorem dX6_shimNow_7 : decode cX6_shimNow 7 = .ok (.iconst 3, 1) := by decide +kernel
theorem dX6_shimNow_8 : decode cX6_shimNow 8 = .ok (.iaload, 1) := by decide +kernel
theorem dX6_shimNow_9 : decode cX6_shimNow 9 = .ok (.imul, 1) := by decide +kernel
theorem dX6_shimNow_10 : decode cX6_shimNow 10 = .ok (.iadd, 1) := by decide +kernel
theorem dX6_shimNow_11 : decode cX6_shimNow 11 = .ok (.istore 6, 2) := by decide +kernel
theorem dX6_shimNow_13 : decode cX6_shimNow 13 = .ok (.aload_n 0, 1) := by decide +kernel
theorem dX6_shimNow_14 : decode cX6_shimNow 14 = .ok (.getfield 7, 3) := by decide +kernel
theorem dX6_shimNow_17 : decode cX6_shimNow 17 = .ok (.iload 6, 2) := by decide +kernel
theorem dX6_shimNow_19 : decode cX6_shimNow 19 = .ok (.iload_n 1, 1) := by decide +kernel
theorem dX6_shimNow_20 : decode cX6_shimNow 20 = .ok (.iastore, 1) := by decide +kernel
theorem dX6_shimNow_21 : decode cX6_shimNow 21 = .ok (.aload_n 0, 1) := by decide +kernel
theorem dX6_shimNow_22 : decode cX6_shimNow 22 = .ok (.getfield 7, 3) := by decide +kernel
theorem dX6_shimNow_25 : decode cX6_shimNow 25 = .ok (.iload 6, 2) := by decide +kernel
theorem dX6_shimNow_27 : decode cX6_shimNow 27 = .ok (.iconst 1, 1) := by decide +kernel
theorem dX6_shimNow_28 : decode cX6_shimNow 28 = .ok (.iadd, 1) := by decide +kernel
theorem dX6_shimNow_29 : decode cX6_shimNow 29 = .ok (.iload_n 2, 1) := by decide +kernel
theorem dX6_shimNow_30 : decode cX6_shimNow 30 = .ok (.iastore, 1) := by decide +kernel
theorem dX6_shimNow_31 : decode cX6_shimNow 31 = .ok (.aload_n 0, 1) := by decide +kernel
theorem dX6_shimNow_32 : decode cX6_shimNow 32 = .ok (.getfield 7, 3) := by decide +kernel
theorem dX6_shimNow_35 : decode cX6_shimNow 35 = .ok (.iload 6, 2) := by decide +kernel
theorem dX6_shimNow_37 : decode cX6_shimNow 37 = .ok (.iconst 2, 1) := by decide +kernel
theorem dX6_shimNow_38 : decode cX6_shimNow 38 = .ok (.iadd, 1) := by decide +kernel
theorem dX6_shimNow_39 : decode cX6_shimNow 39 = .ok (.iload_n 3, 1) := by decide +kernel
theorem dX6_shimNow_40 : decode cX6_shimNow 40 = .ok (.iastore, 1) := by decide +kernel
theorem dX6_shimNow_41 : decode cX6_shimNow 41 = .ok (.aload_n 0, 1) := by decide +kernel
theorem dX6_shimNow_42 : decode cX6_shimNow 42 = .ok (.getfield 7, 3) := by decide +kernel
theorem dX6_shimNow_45 : decode cX6_shimNow 45 = .ok (.iload 6, 2) := by decide +kernel
theorem dX6_shimNow_47 : decode cX6_shimNow 47 = .ok (.iconst 3, 1) := by decide +kernel
theorem dX6_shimNow_48 : decode cX6_shimNow 48 = .ok (.iadd, 1) := by decide +kernel
theorem dX6_shimNow_49 : decode cX6_shimNow 49 = .ok (.iload 4, 2) := by decide +kernel
theorem dX6_shimNow_51 : decode cX6_shimNow 51 = .ok (.iastore, 1) := by decide +kernel
theorem dX6_shimNow_52 : decode cX6_shimNow 52 = .ok (.aload_n 0, 1) := by decide +kernel
theorem dX6_shimNow_53 : decode cX6_shimNow 53 = .ok (.getfield 7, 3) := by decide +kernel
theorem dX6_shimNow_56 : decode cX6_shimNow 56 = .ok (.iload 6, 2) := by decide +kernel
theorem dX6_shimNow_58 : decode cX6_shimNow 58 = .ok (.iconst 4, 1) := by decide +kernel
theorem dX6_shimNow_59 : decode cX6_shimNow 59 = .ok (.iadd, 1) := by decide +kernel
theorem dX6_shimNow_60 : decode cX6_shimNow 60 = .ok (.iload 5, 2) := by decide +kernel
theorem dX6_shimNow_62 : decode cX6_shimNow 62 = .ok (.iastore, 1) := by decide +kernel
theorem dX6_shimNow_63 : decode cX6_shimNow 63 = .ok (.aload_n 0, 1) := by decide +kernel
theorem dX6_shimNow_64 : decode cX6_shimNow 64 = .ok (.getfield 7, 3) := by decide +kernel
theorem dX6_shimNow_67 : decode cX6_shimNow 67 = .ok (.iconst 3, 1) := by decide +kernel
theorem dX6_shimNow_68 : decode cX6_shimNow 68 = .ok (.dup2, 1) := by decide +kernel
theorem dX6_shimNow_69 : decode cX6_shimNow 69 = .ok (.iaload, 1) := by decide +kernel
theorem dX6_shimNow_70 : decode cX6_shimNow 70 = .ok (.iconst 1, 1) := by decide +kernel
theorem dX6_shimNow_71 : decode cX6_shimNow 71 = .ok (.iadd, 1) := by decide +kernel
theorem dX6_shimNow_72 : decode cX6_shimNow 72 = .ok (.iastore, 1) := by decide +kernel
theorem dX6_shimNow_73 : decode cX6_shimNow 73 = .ok (.aload_n 0, 1) := by decide +kernel
theorem dX6_shimNow_74 : decode cX6_shimNow 74 = .ok (.getfield 7, 3) := by decide +kernel
theorem dX6_shimNow_77 : decode cX6_shimNow 77 = .ok (.iconst 3, 1) := by decide +kernel
theorem dX6_shimNow_78 : decode cX6_shimNow 78 = .ok (.iaload, 1) := by decide +kernel
theorem dX6_shimNow_79 : decode cX6_shimNow 79 = .ok (.iconst 1, 1) := by decide +kernel
theorem dX6_shimNow_80 : decode cX6_shimNow 80 = .ok (.isub, 1) := by decide +kernel
theorem dX6_shimNow_81 : decode cX6_shimNow 81 = .ok (.ireturn, 1) := by decide +kernel
set_option maxRecDepth 20000 in
theorem ggX6_addShim_X6_shimRefused : GoodIn wsX6_addShim wsX6_shimRefused := goodIn_r _ [6, 7, 8, 9, 10, 5, 11, 12, 13, 14, 15, 16, 17, 18, 19, 20, 21, 32, 33, 34, 35, 36, 37, 38, 39, 40, 41, 42, 43, 44, 45] (by decide +kernel) (by decide +kernel)
set_option maxRecDepth 20000 in
theorem gX6_addShim_X6_shimRefused : GoodIn wsX6_addShim (wsV RX6 80 RX6 yX6_shimRefused wsX6_shimRefused) := goodIn_app (goodIn_of _ (by decide +kernel)) ggX6_addShim_X6_shimRefused
set_option maxRecDepth 20000 in
theorem ggX6_addShim_X6_save : GoodIn wsX6_addShim wsX6_save := goodIn_r _ [25, 26, 27, 7, 32, 33, 34, 35, 36, 37, 38, 39, 40, 41, 42, 43, 44, 45] (by decide +kernel) (by decide +kernel)
set_option maxRecDepth 20000 in
theorem gX6_addShim_X6_save : GoodIn wsX6_addShim (wsV RX6 34 RX6 yX6_save wsX6_save) := goodIn_app (goodIn_of _ (by decide +kernel)) ggX6_addShim_X6_save
set_option maxRecDepth 20000 in
theorem ggX6_addShim_X6_shimNow : GoodIn wsX6_addShim wsX6_shimNow := goodIn_r _ [31, 7, 32, 33, 34, 35, 36, 37, 38, 39, 40, 41, 42, 43, 44, 45] (by decide +kernel) (by decide +kernel)
set_option maxRecDepth 20000 in
theorem gX6_addShim_X6_shimNow : GoodIn wsX6_addShim (wsV RX6 84 RX6 yX6_shimNow wsX6_shimNow) := goodIn_app (goodIn_of _ (by decide +kernel)) ggX6_addShim_X6_shimNow
theorem dX6_addShim_0 : decode cX6_addShim 0 = .ok (.aload_n 0, 1) := by decide +kernel
theorem dX6_addShim_1 : decode cX6_addShim 1 = .ok (.aload_n 0, 1) := by decide +kernel
theorem dX6_addShim_2 : decode cX6_addShim 2 = .ok (.iload_n 1, 1) := by decide +kernel
theorem dX6_addShim_3 : decode cX6_addShim 3 = .ok (.iload_n 2, 1) := by decide +kernel
theorem dX6_addShim_4 : decode cX6_addShim 4 = .ok (.iload_n 3, 1) := by decide +kernel
theorem dX6_addShim_5 : decode cX6_addShim 5 = .ok (.iload 4, 2) := by decide +kernel
theorem dX6_addShim_7 : decode cX6_addShim 7 = .ok (.iload 5, 2) := by decide +kernel
theorem dX6_addShim_9 : decode cX6_addShim 9 = .ok (.invokevirtual 80, 3) := by decide +kernel
theorem dX6_addShim_12 : decode cX6_addShim 12 = .ok (.putfield 19, 3) := by decide +kernel
theorem dX6_addShim_15 : decode cX6_addShim 15 = .ok (.aload_n 0, 1) := by decide +kernel
theorem dX6_addShim_16 : decode cX6_addShim 16 = .ok (.getfield 19, 3) := by decide +kernel
theorem dX6_addShim_19 : decode cX6_addShim 19 = .ok (.ifCond .le 5, 3) := by decide +kernel
theorem dX6_addShim_22 : decode cX6_addShim 22 = .ok (.iconst 0, 1) := by decide +kernel
theorem dX6_addShim_23 : decode cX6_addShim 23 = .ok (.ireturn, 1) := by decide +kernel
theorem dX6_addShim_24 : decode cX6_addShim 24 = .ok (.aload_n 0, 1) := by decide +kernel
theorem dX6_addShim_25 : decode cX6_addShim 25 = .ok (.invokevirtual 34, 3) := by decide +kernel
theorem dX6_addShim_28 : decode cX6_addShim 28 = .ok (.aload_n 0, 1) := by decide +kernel
theorem dX6_addShim_29 : decode cX6_addShim 29 = .ok (.iload_n 1, 1) := by decide +kernel
theorem dX6_addShim_30 : decode cX6_addShim 30 = .ok (.iload_n 2, 1) := by decide +kernel
theorem dX6_addShim_31 : decode cX6_addShim 31 = .ok (.iload_n 3, 1) := by decide +kernel
theorem dX6_addShim_32 : decode cX6_addShim 32 = .ok (.iload 4, 2) := by decide +kernel
theorem dX6_addShim_34 : decode cX6_addShim 34 = .ok (.iload 5, 2) := by decide +kernel
theorem dX6_addShim_36 : decode cX6_addShim 36 = .ok (.invokevirtual 84, 3) := by decide +kernel
theorem dX6_addShim_39 : decode cX6_addShim 39 = .ok (.ireturn, 1) := by decide +kernel
theorem dX6_dropNow_0 : decode cX6_dropNow 0 = .ok (.bipush 98, 2) := by decide +kernel
theorem dX6_dropNow_2 : decode cX6_dropNow 2 = .ok (.iconst 5, 1) := by decide +kernel
theorem dX6_dropNow_3 : decode cX6_dropNow 3 = .ok (.iload_n 1, 1) := by decide +kernel
theorem dX6_dropNow_4 : decode cX6_dropNow 4 = .ok (.imul, 1) := by decide +kernel
theorem dX6_dropNow_5 : decode cX6_dropNow 5 = .ok (.iadd, 1) := by decide +kernel
theorem dX6_dropNow_6 : decode cX6_dropNow 6 = .ok (.iconst 5, 1) := by decide +kernel
theorem dX6_dropNow_7 : decode cX6_dropNow 7 = .ok (.iadd, 1) := by decide +kernel
theorem dX6_dropNow_8 : decode cX6_dropNow 8 = .ok (.istore_n 2, 1) := by decide +kernel
theorem dX6_dropNow_9 : decode cX6_dropNow 9 = .ok (.iload_n 2, 1) := by decide +kernel
theorem dX6_dropNow_10 : decode cX6_dropNow 10 = .ok (.sipush 158, 3) := by decide +kernel
theorem dX6_dropNow_13 : decode cX6_dropNow 13 = .ok (.if_icmp .ge 23, 3) := by decide +kernel
theorem dX6_dropNow_16 : decode cX6_dropNow 16 = .ok (.aload_n 0, 1) := by decide +kernel
theorem dX6_dropNow_17 : decode cX6_dropNow 17 = .ok (.getfield 7, 3) := by decide +kernel
theorem dX6_dropNow_20 : decode cX6_dropNow 20 = .ok (.iload_n 2, 1) := by decide +kernel
theorem dX6_dropNow_21 : decode cX6_dropNow 21 = .ok (.iconst 5, 1) := by decide +kernel
theorem dX6_dropNow_22 : decode cX6_dropNow 22 = .ok (.isub, 1) := by decide +kernel
theorem dX6_dropNow_23 : decode cX6_dropNow 23 = .ok (.aload_n 0, 1) := by decide +kernel
theorem dX6_dropNow_24 : decode cX6_dropNow 24 = .ok (.getfield 7, 3) := by decide +kernel
theorem dX6_dropNow_27 : decode cX6_dropNow 27 = .ok (.iload_n 2, 1) := by decide +kernel
theorem dX6_dropNow_28 : decode cX6_dropNow 28 = .ok (.iaload, 1) := by decide +kernel
theorem dX6_dropNow_29 : decode cX6_dropNow 29 = .ok (.iastore, 1) := by decide +kernel
theorem dX6_dropNow_30 : decode cX6_dropNow 30 = .ok (.iinc 2 1, 3) := by decide +kernel
theorem dX6_dropNow_33 : decode cX6_dropNow 33 = .ok (.goto (-24), 3) := by decide +kernel
theorem dX6_dropNow_36 : decode cX6_dropNow 36 = .ok (.aload_n 0, 1) := by decide +kernel
theorem dX6_dropNow_37 : decode cX6_dropNow 37 = .ok (.getfield 7, 3) := by decide +kernel
theorem dX6_dropNow_40 : decode cX6_dropNow 40 = .ok (.iconst 3, 1) := by decide +kernel
theorem dX6_dropNow_41 : decode cX6_dropNow 41 = .ok (.dup2, 1) := by decide +kernel
theorem dX6_dropNow_42 : decode cX6_dropNow 42 = .ok (.iaload, 1) := by decide +kernel
theorem dX6_dropNow_43 : decode cX6_dropNow 43 = .ok (.iconst 1, 1) := by decide +kernel
theorem dX6_dropNow_44 : decode cX6_dropNow 44 = .ok (.isub, 1) := by decide +kernel
theorem dX6_dropNow_45 : decode cX6_dropNow 45 = .ok (.iastore, 1) := by decide +kernel
theorem dX6_dropNow_46 : decode cX6_dropNow 46 = .ok (.aload_n 0, 1) := by decide +kernel
theorem dX6_dropNow_47 : decode cX6_dropNow 47 = .ok (.getfield 7, 3) := by decide +kernel
theorem dX6_dropNow_50 : decode cX6_dropNow 50 = .ok (.iconst 3, 1) := by decide +kernel
theorem dX6_dropNow_51 : decode cX6_dropNow 51 = .ok (.iaload, 1) := by decide +kernel
theorem dX6_dropNow_52 : decode cX6_dropNow 52 = .ok (.ireturn, 1) := by decide +kernel
set_option maxRecDepth 20000 in
theorem ggX6_dropShim_X6_isShim : GoodIn wsX6_dropShim wsX6_isShim := goodIn_r _ [6, 7, 8, 9, 5, 10, 21, 22, 23, 24, 25, 26, 27, 28, 29, 30, 31, 32, 33, 34] (by decide +kernel) (by decide +kernel)
set_option maxRecDepth 20000 in
theorem gX6_dropShim_X6_isShim : GoodIn wsX6_dropShim (wsV RX6 87 RX6 yX6_isShim wsX6_isShim) := goodIn_app (goodIn_of _ (by decide +kernel)) ggX6_dropShim_X6_isShim
set_option maxRecDepth 20000 in
theorem ggX6_dropShim_X6_save : GoodIn wsX6_dropShim wsX6_save := goodIn_r _ [14, 15, 16, 7, 21, 22, 23, 24, 25, 26, 27, 28, 29, 30, 31, 32, 33, 34] (by decide +kernel) (by decide +kernel)
set_option maxRecDepth 20000 in
theorem gX6_dropShim_X6_save : GoodIn wsX6_dropShim (wsV RX6 34 RX6 yX6_save wsX6_save) := goodIn_app (goodIn_of _ (by decide +kernel)) ggX6_dropShim_X6_save
set_option maxRecDepth 20000 in
theorem ggX6_dropShim_X6_dropNow : GoodIn wsX6_dropShim wsX6_dropNow := goodIn_r _ [20, 7, 21, 22, 23, 24, 25, 26, 27, 28, 29, 30, 31, 32, 33, 34] (by decide +kernel) (by decide +kernel)
set_option maxRecDepth 20000 in
theorem gX6_dropShim_X6_dropNow : GoodIn wsX6_dropShim (wsV RX6 90 RX6 yX6_dropNow wsX6_dropNow) := goodIn_app (goodIn_of _ (by decide +kernel)) ggX6_dropShim_X6_dropNow
theorem dX6_dropShim_0 : decode cX6_dropShim 0 = .ok (.aload_n 0, 1) := by decide +kernel
theorem dX6_dropShim_1 : decode cX6_dropShim 1 = .ok (.aload_n 0, 1) := by decide +kernel
theorem dX6_dropShim_2 : decode cX6_dropShim 2 = .ok (.iload_n 1, 1) := by decide +kernel
theorem dX6_dropShim_3 : decode cX6_dropShim 3 = .ok (.invokevirtual 87, 3) := by decide +kernel
theorem dX6_dropShim_6 : decode cX6_dropShim 6 = .ok (.ifCond .eq 7, 3) := by decide +kernel
theorem dX6_dropShim_9 : decode cX6_dropShim 9 = .ok (.iconst 0, 1) := by decide +kernel
theorem dX6_dropShim_10 : decode cX6_dropShim 10 = .ok (.goto 4, 3) := by decide +kernel
theorem dX6_dropShim_13 : decode cX6_dropShim 13 = .ok (.iconst 1, 1) := by decide +kernel
theorem dX6_dropShim_14 : decode cX6_dropShim 14 = .ok (.putfield 19, 3) := by decide +kernel
theorem dX6_dropShim_17 : decode cX6_dropShim 17 = .ok (.aload_n 0, 1) := by decide +kernel
theorem dX6_dropShim_18 : decode cX6_dropShim 18 = .ok (.getfield 19, 3) := by decide +kernel
theorem dX6_dropShim_21 : decode cX6_dropShim 21 = .ok (.ifCond .le 5, 3) := by decide +kernel
theorem dX6_dropShim_24 : decode cX6_dropShim 24 = .ok (.iconst 0, 1) := by decide +kernel
theorem dX6_dropShim_25 : decode cX6_dropShim 25 = .ok (.ireturn, 1) := by decide +kernel
theorem dX6_dropShim_26 : decode cX6_dropShim 26 = .ok (.aload_n 0, 1) := by decide +kernel
theorem dX6_dropShim_27 : decode cX6_dropShim 27 = .ok (.invokevirtual 34, 3) := by decide +kernel
theorem dX6_dropShim_30 : decode cX6_dropShim 30 = .ok (.aload_n 0, 1) := by decide +kernel
theorem dX6_dropShim_31 : decode cX6_dropShim 31 = .ok (.iload_n 1, 1) := by decide +kernel
theorem dX6_dropShim_32 : decode cX6_dropShim 32 = .ok (.invokevirtual 90, 3) := by decide +kernel
theorem dX6_dropShim_35 : decode cX6_dropShim 35 = .ok (.ireturn, 1) := by decide +kernel
set_option maxRecDepth 20000 in
theorem ggX6_featuresOf_X6_has : GoodIn wsX6_featuresOf wsX6_has := goodIn_r _ [5] (by decide +kernel) (by decide +kernel)
set_option maxRecDepth 20000 in
theorem gX6_featuresOf_X6_has : GoodIn wsX6_featuresOf (va_wsS RX6 44 yX6_has wsX6_has) := goodIn_app (goodIn_of _ (by decide +kernel)) ggX6_featuresOf_X6_has
theorem dX6_featuresOf_0 : decode cX6_featuresOf 0 = .ok (.iconst 0, 1) := by decide +kernel
theorem dX6_featuresOf_1 : decode cX6_featuresOf 1 = .ok (.istore_n 2, 1) := by decide +kernel
theorem dX6_featuresOf_2 : decode cX6_featuresOf 2 = .ok (.iconst 0, 1) := by decide +kernel
theorem dX6_featuresOf_3 : decode cX6_featuresOf 3 = .ok (.istore_n 3, 1) := by decide +kernel
theorem dX6_featuresOf_4 : decode cX6_featuresOf 4 = .ok (.iload_n 3, 1) := by decide +kernel
theorem dX6_featuresOf_5 : decode cX6_featuresOf 5 = .ok (.aload_n 0, 1) := by decide +kernel
theorem dX6_featuresOf_6 : decode cX6_featuresOf 6 = .ok (.getfield 7, 3) := by decide +kernel
theorem dX6_featuresOf_9 : decode cX6_featuresOf 9 = .ok (.iconst 1, 1) := by decide +kernel
theorem dX6_featuresOf_10 : decode cX6_featuresOf 10 = .ok (.iaload, 1) := by decide +kernel
theorem dX6_featuresOf_11 : decode cX6_featuresOf 11 = .ok (.if_icmp .ge 35, 3) := by decide +kernel
theorem dX6_featuresOf_14 : decode cX6_featuresOf 14 = .ok (.iload_n 2, 1) := by decide +kernel
theorem dX6_featuresOf_15 : decode cX6_featuresOf 15 = .ok (.aload_n 0, 1) := by decide +kernel
theorem dX6_featuresOf_16 : decode cX6_featuresOf 16 = .ok (.getfield 7, 3) := by decide +kernel
theorem dX6_featuresOf_19 : decode cX6_featuresOf 19 = .ok (.bipush 28, 2) := by decide +kernel
theorem dX6_featuresOf_21 : decode cX6_featuresOf 21 = .ok (.iload_n 3, 1) := by decide +kernel
theorem dX6_featuresOf_22 : decode cX6_featuresOf 22 = .ok (.iadd, 1) := by decide +kernel
theorem dX6_featuresOf_23 : decode cX6_featuresOf 23 = .ok (.iaload, 1) := by decide +kernel
theorem dX6_featuresOf_24 : decode cX6_featuresOf 24 = .ok (.iload_n 1, 1) := by decide +kernel
theorem dX6_featuresOf_25 : decode cX6_featuresOf 25 = .ok (.invokestatic 44, 3) := by decide +kernel
theorem dX6_featuresOf_28 : decode cX6_featuresOf 28 = .ok (.ifCond .eq 9, 3) := by decide +kernel
theorem dX6_featuresOf_31 : decode cX6_featuresOf 31 = .ok (.iconst 1, 1) := by decide +kernel
theorem dX6_featuresOf_32 : decode cX6_featuresOf 32 = .ok (.iload_n 3, 1) := by decide +kernel
theorem dX6_featuresOf_33 : decode cX6_featuresOf 33 = .ok (.ishl, 1) := by decide +kernel
theorem dX6_featuresOf_34 : decode cX6_featuresOf 34 = .ok (.goto 4, 3) := by decide +kernel
theorem dX6_featuresOf_37 : decode cX6_featuresOf 37 = .ok (.iconst 0, 1) := by decide +kernel
theorem dX6_featuresOf_38 : decode cX6_featuresOf 38 = .ok (.ior, 1) := by decide +kernel
theorem dX6_featuresOf_39 : decode cX6_featuresOf 39 = .ok (.istore_n 2, 1) := by decide +kernel
theorem dX6_featuresOf_40 : decode cX6_featuresOf 40 = .ok (.iinc 3 1, 3) := by decide +kernel
theorem dX6_featuresOf_43 : decode cX6_featuresOf 43 = .ok (.goto (-39), 3) := by decide +kernel
theorem dX6_featuresOf_46 : decode cX6_featuresOf 46 = .ok (.iload_n 2, 1) := by decide +kernel
theorem dX6_featuresOf_47 : decode cX6_featuresOf 47 = .ok (.ireturn, 1) := by decide +kernel
set_option maxRecDepth 20000 in
theorem ggX6_shimsFor_X6_ofShim : GoodIn wsX6_shimsFor wsX6_ofShim := goodIn_r _ [6, 1, 7, 8, 9, 10, 11, 12, 13, 14, 15, 16, 17, 18, 19, 20] (by decide +kernel) (by decide +kernel)
set_option maxRecDepth 20000 in
theorem gX6_shimsFor_X6_ofShim : GoodIn wsX6_shimsFor (wsV RX6 93 RX6 yX6_ofShim wsX6_ofShim) := goodIn_app (goodIn_of _ (by decide +kernel)) ggX6_shimsFor_X6_ofShim
theorem dX6_shimsFor_0 : decode cX6_shimsFor 0 = .ok (.iconst 0, 1) := by decide +kernel
theorem dX6_shimsFor_1 : decode cX6_shimsFor 1 = .ok (.istore_n 2, 1) := by decide +kernel
theorem dX6_shimsFor_2 : decode cX6_shimsFor 2 = .ok (.iconst 0, 1) := by decide +kernel
theorem dX6_shimsFor_3 : decode cX6_shimsFor 3 = .ok (.istore_n 3, 1) := by decide +kernel
theorem dX6_shimsFor_4 : decode cX6_shimsFor 4 = .ok (.iload_n 3, 1) := by decide +kernel
theorem dX6_shimsFor_5 : decode cX6_shimsFor 5 = .ok (.aload_n 0, 1) := by decide +kernel
theorem dX6_shimsFor_6 : decode cX6_shimsFor 6 = .ok (.getfield 7, 3) := by decide +kernel
theorem dX6_shimsFor_9 : decode cX6_shimsFor 9 = .ok (.iconst 3, 1) := by decide +kernel
theorem dX6_shimsFor_10 : decode cX6_shimsFor 10 = .ok (.iaload, 1) := by decide +kernel
theorem dX6_shimsFor_11 : decode cX6_shimsFor 11 = .ok (.if_icmp .ge 27, 3) := by decide +kernel
theorem dX6_shimsFor_14 : decode cX6_shimsFor 14 = .ok (.iload_n 2, 1) := by decide +kernel
theorem dX6_shimsFor_15 : decode cX6_shimsFor 15 = .ok (.aload_n 0, 1) := by decide +kernel
theorem dX6_shimsFor_16 : decode cX6_shimsFor 16 = .ok (.iload_n 3, 1) := by decide +kernel
theorem dX6_shimsFor_17 : decode cX6_shimsFor 17 = .ok (.iconst 1, 1) := by decide +kernel
theorem dX6_shimsFor_18 : decode cX6_shimsFor 18 = .ok (.invokevirtual 93, 3) := by decide +kernel
theorem dX6_shimsFor_21 : decode cX6_shimsFor 21 = .ok (.iload_n 1, 1) := by decide +kernel
theorem dX6_shimsFor_22 : decode cX6_shimsFor 22 = .ok (.if_icmp .ne 7, 3) := by decide +kernel
theorem dX6_shimsFor_25 : decode cX6_shimsFor 25 = .ok (.iconst 1, 1) := by decide +kernel
theorem dX6_shimsFor_26 : decode cX6_shimsFor 26 = .ok (.goto 4, 3) := by decide +kernel
theorem dX6_shimsFor_29 : decode cX6_shimsFor 29 = .ok (.iconst 0, 1) := by decide +kernel
theorem dX6_shimsFor_30 : decode cX6_shimsFor 30 = .ok (.iadd, 1) := by decide +kernel
theorem dX6_shimsFor_31 : decode cX6_shimsFor 31 = .ok (.istore_n 2, 1) := by decide +kernel
theorem dX6_shimsFor_32 : decode cX6_shimsFor 32 = .ok (.iinc 3 1, 3) := by decide +kernel
theorem dX6_shimsFor_35 : decode cX6_shimsFor 35 = .ok (.goto (-31), 3) := by decide +kernel
theorem dX6_shimsFor_38 : decode cX6_shimsFor 38 = .ok (.iload_n 2, 1) := by decide +kernel
theorem dX6_shimsFor_39 : decode cX6_shimsFor 39 = .ok (.ireturn, 1) := by decide +kernel
set_option maxRecDepth 20000 in
theorem ggX6_toldVersion_X6_featuresOf : GoodIn wsX6_toldVersion wsX6_featuresOf := goodIn_r _ [6, 1, 7, 8, 5, 9, 18, 19, 20, 21, 22, 23, 24, 25, 26, 27, 28, 29, 30, 31] (by decide +kernel) (by decide +kernel)
set_option maxRecDepth 20000 in
theorem gX6_toldVersion_X6_featuresOf : GoodIn wsX6_toldVersion (wsV RX6 96 RX6 yX6_featuresOf wsX6_featuresOf) := goodIn_app (goodIn_of _ (by decide +kernel)) ggX6_toldVersion_X6_featuresOf
set_option maxRecDepth 20000 in
theorem ggX6_toldVersion_X6_shimsFor : GoodIn wsX6_toldVersion wsX6_shimsFor := goodIn_r _ [13, 1, 14, 15, 16, 5, 17, 18, 19, 20, 21, 22, 23, 24, 25, 26, 27, 28, 29, 30, 31] (by decide +kernel) (by decide +kernel)
set_option maxRecDepth 20000 in
theorem gX6_toldVersion_X6_shimsFor : GoodIn wsX6_toldVersion (wsV RX6 99 RX6 yX6_shimsFor wsX6_shimsFor) := goodIn_app (goodIn_of _ (by decide +kernel)) ggX6_toldVersion_X6_shimsFor
theorem dX6_toldVersion_0 : decode cX6_toldVersion 0 = .ok (.iload_n 2, 1) := by decide +kernel
theorem dX6_toldVersion_1 : decode cX6_toldVersion 1 = .ok (.iconst 2, 1) := by decide +kernel
theorem dX6_toldVersion_2 : decode cX6_toldVersion 2 = .ok (.if_icmp .ge 18, 3) := by decide +kernel
theorem dX6_toldVersion_5 : decode cX6_toldVersion 5 = .ok (.aload_n 0, 1) := by decide +kernel
theorem dX6_toldVersion_6 : decode cX6_toldVersion 6 = .ok (.getfield 7, 3) := by decide +kernel
theorem dX6_toldVersion_9 : decode cX6_toldVersion 9 = .ok (.iconst 4, 1) := by decide +kernel
theorem dX6_toldVersion_10 : decode cX6_toldVersion 10 = .ok (.iconst 3, 1) := by decide +kernel
theorem dX6_toldVersion_11 : decode cX6_toldVersion 11 = .ok (.iload_n 1, 1) := by decide +kernel
theorem dX6_toldVersion_12 : decode cX6_toldVersion 12 = .ok (.imul, 1) := by decide +kernel
theorem dX6_toldVersion_13 : decode cX6_toldVersion 13 = .ok (.iadd, 1) := by decide +kernel
theorem dX6_toldVersion_14 : decode cX6_toldVersion 14 = .ok (.iload_n 2, 1) := by decide +kernel
theorem dX6_toldVersion_15 : decode cX6_toldVersion 15 = .ok (.iadd, 1) := by decide +kernel
theorem dX6_toldVersion_16 : decode cX6_toldVersion 16 = .ok (.iaload, 1) := by decide +kernel
theorem dX6_toldVersion_17 : decode cX6_toldVersion 17 = .ok (.goto 40, 3) := by decide +kernel
theorem dX6_toldVersion_20 : decode cX6_toldVersion 20 = .ok (.iload_n 2, 1) := by decide +kernel
theorem dX6_toldVersion_21 : decode cX6_toldVersion 21 = .ok (.iconst 2, 1) := by decide +kernel
theorem dX6_toldVersion_22 : decode cX6_toldVersion 22 = .ok (.if_icmp .ne 11, 3) := by decide +kernel
theorem dX6_toldVersion_25 : decode cX6_toldVersion 25 = .ok (.aload_n 0, 1) := by decide +kernel
theorem dX6_toldVersion_26 : decode cX6_toldVersion 26 = .ok (.iload_n 1, 1) := by decide +kernel
theorem dX6_toldVersion_27 : decode cX6_toldVersion 27 = .ok (.invokevirtual 96, 3) := by decide +kernel
theorem dX6_toldVersion_30 : decode cX6_toldVersion 30 = .ok (.goto 27, 3) := by decide +kernel
theorem dX6_toldVersion_33 : decode cX6_toldVersion 33 = .ok (.iload_n 2, 1) := by decide +kernel
theorem dX6_toldVersion_34 : decode cX6_toldVersion 34 = .ok (.iconst 3, 1) := by decide +kernel
theorem dX6_toldVersion_35 : decode cX6_toldVersion 35 = .ok (.if_icmp .ne 17, 3) := by decide +kernel
theorem dX6_toldVersion_38 : decode cX6_toldVersion 38 = .ok (.aload_n 0, 1) := by decide +kernel
theorem dX6_toldVersion_39 : decode cX6_toldVersion 39 = .ok (.getfield 7, 3) := by decide +kernel
theorem dX6_toldVersion_42 : decode cX6_toldVersion 42 = .ok (.bipush 6, 2) := by decide +kernel
theorem dX6_toldVersion_44 : decode cX6_toldVersion 44 = .ok (.iconst 3, 1) := by decide +kernel
theorem dX6_toldVersion_45 : decode cX6_toldVersion 45 = .ok (.iload_n 1, 1) := by decide +kernel
theorem dX6_toldVersion_46 : decode cX6_toldVersion 46 = .ok (.imul, 1) := by decide +kernel
theorem dX6_toldVersion_47 : decode cX6_toldVersion 47 = .ok (.iadd, 1) := by decide +kernel
theorem dX6_toldVersion_48 : decode cX6_toldVersion 48 = .ok (.iaload, 1) := by decide +kernel
theorem dX6_toldVersion_49 : decode cX6_toldVersion 49 = .ok (.goto 8, 3) := by decide +kernel
theorem dX6_toldVersion_52 : decode cX6_toldVersion 52 = .ok (.aload_n 0, 1) := by decide +kernel
theorem dX6_toldVersion_53 : decode cX6_toldVersion 53 = .ok (.iload_n 1, 1) := by decide +kernel
theorem dX6_toldVersion_54 : decode cX6_toldVersion 54 = .ok (.invokevirtual 99, 3) := by decide +kernel
theorem dX6_toldVersion_57 : decode cX6_toldVersion 57 = .ok (.ireturn, 1) := by decide +kernel
set_option maxRecDepth 20000 in
theorem ggX6_version_X6_isVersion : GoodIn wsX6_version wsX6_isVersion := goodIn_r _ [6, 7, 8, 9, 5, 10, 30, 31, 32, 33, 34, 35, 36, 37, 38, 39, 40, 41, 42, 43] (by decide +kernel) (by decide +kernel)
set_option maxRecDepth 20000 in
theorem gX6_version_X6_isVersion : GoodIn wsX6_version (wsV RX6 41 RX6 yX6_isVersion wsX6_isVersion) := goodIn_app (goodIn_of _ (by decide +kernel)) ggX6_version_X6_isVersion
set_option maxRecDepth 20000 in
theorem ggX6_version_X6_in : GoodIn wsX6_version wsX6_in := goodIn_r _ [10] (by decide +kernel) (by decide +kernel)
set_option maxRecDepth 20000 in
theorem gX6_version_X6_in : GoodIn wsX6_version (va_wsS RX6 23 yX6_in wsX6_in) := goodIn_app (goodIn_of _ (by decide +kernel)) ggX6_version_X6_in
set_option maxRecDepth 20000 in
theorem ggX6_version_X6_toldVersion : GoodIn wsX6_version wsX6_toldVersion := goodIn_r _ [14, 7, 15, 16, 17, 5, 18, 19, 20, 21, 22, 23, 24, 25, 26, 27, 28, 29, 30, 31, 32, 33, 34, 35, 36, 37, 38, 39, 40, 41, 42, 43] (by decide +kernel) (by decide +kernel)
set_option maxRecDepth 20000 in
theorem gX6_version_X6_toldVersion : GoodIn wsX6_version (wsV RX6 102 RX6 yX6_toldVersion wsX6_toldVersion) := goodIn_app (goodIn_of _ (by decide +kernel)) ggX6_version_X6_toldVersion
theorem dX6_version_0 : decode cX6_version 0 = .ok (.aload_n 0, 1) := by decide +kernel
theorem dX6_version_1 : decode cX6_version 1 = .ok (.aload_n 0, 1) := by decide +kernel
theorem dX6_version_2 : decode cX6_version 2 = .ok (.iload_n 1, 1) := by decide +kernel
theorem dX6_version_3 : decode cX6_version 3 = .ok (.invokevirtual 41, 3) := by decide +kernel
theorem dX6_version_6 : decode cX6_version 6 = .ok (.ifCond .ne 7, 3) := by decide +kernel
theorem dX6_version_9 : decode cX6_version 9 = .ok (.iconst 1, 1) := by decide +kernel
theorem dX6_version_10 : decode cX6_version 10 = .ok (.goto 17, 3) := by decide +kernel
theorem dX6_version_13 : decode cX6_version 13 = .ok (.iload_n 2, 1) := by decide +kernel
theorem dX6_version_14 : decode cX6_version 14 = .ok (.iconst 0, 1) := by decide +kernel
theorem dX6_version_15 : decode cX6_version 15 = .ok (.iconst 4, 1) := by decide +kernel
theorem dX6_version_16 : decode cX6_version 16 = .ok (.invokestatic 23, 3) := by decide +kernel
theorem dX6_version_19 : decode cX6_version 19 = .ok (.ifCond .ne 7, 3) := by decide +kernel
theorem dX6_version_22 : decode cX6_version 22 = .ok (.iconst 2, 1) := by decide +kernel
theorem dX6_version_23 : decode cX6_version 23 = .ok (.goto 4, 3) := by decide +kernel
theorem dX6_version_26 : decode cX6_version 26 = .ok (.iconst 0, 1) := by decide +kernel
theorem dX6_version_27 : decode cX6_version 27 = .ok (.putfield 19, 3) := by decide +kernel
theorem dX6_version_30 : decode cX6_version 30 = .ok (.aload_n 0, 1) := by decide +kernel
theorem dX6_version_31 : decode cX6_version 31 = .ok (.getfield 19, 3) := by decide +kernel
theorem dX6_version_34 : decode cX6_version 34 = .ok (.ifCond .le 7, 3) := by decide +kernel
theorem dX6_version_37 : decode cX6_version 37 = .ok (.iconst 0, 1) := by decide +kernel
theorem dX6_version_38 : decode cX6_version 38 = .ok (.goto 9, 3) := by decide +kernel
theorem dX6_version_41 : decode cX6_version 41 = .ok (.aload_n 0, 1) := by decide +kernel
theorem dX6_version_42 : decode cX6_version 42 = .ok (.iload_n 1, 1) := by decide +kernel
theorem dX6_version_43 : decode cX6_version 43 = .ok (.iload_n 2, 1) := by decide +kernel
theorem dX6_version_44 : decode cX6_version 44 = .ok (.invokevirtual 102, 3) := by decide +kernel
theorem dX6_version_47 : decode cX6_version 47 = .ok (.ireturn, 1) := by decide +kernel
set_option maxRecDepth 20000 in
theorem ggX6_user_X6_isUser : GoodIn wsX6_user wsX6_isUser := goodIn_r _ [6, 7, 8, 9, 5, 10, 15, 16, 17, 18, 19, 20, 21, 22, 23, 24, 25, 26, 27, 28] (by decide +kernel) (by decide +kernel)
set_option maxRecDepth 20000 in
theorem gX6_user_X6_isUser : GoodIn wsX6_user (wsV RX6 48 RX6 yX6_isUser wsX6_isUser) := goodIn_app (goodIn_of _ (by decide +kernel)) ggX6_user_X6_isUser
set_option maxRecDepth 20000 in
theorem ggX6_user_X6_in : GoodIn wsX6_user wsX6_in := goodIn_r _ [10] (by decide +kernel) (by decide +kernel)
set_option maxRecDepth 20000 in
theorem gX6_user_X6_in : GoodIn wsX6_user (va_wsS RX6 23 yX6_in wsX6_in) := goodIn_app (goodIn_of _ (by decide +kernel)) ggX6_user_X6_in
set_option maxRecDepth 20000 in
theorem ggX6_user_X6_ofUser : GoodIn wsX6_user wsX6_ofUser := goodIn_r _ [14, 7, 15, 16, 17, 18, 19, 20, 21, 22, 23, 24, 25, 26, 27, 28] (by decide +kernel) (by decide +kernel)
set_option maxRecDepth 20000 in
theorem gX6_user_X6_ofUser : GoodIn wsX6_user (wsV RX6 61 RX6 yX6_ofUser wsX6_ofUser) := goodIn_app (goodIn_of _ (by decide +kernel)) ggX6_user_X6_ofUser
theorem dX6_user_0 : decode cX6_user 0 = .ok (.aload_n 0, 1) := by decide +kernel
theorem dX6_user_1 : decode cX6_user 1 = .ok (.aload_n 0, 1) := by decide +kernel
theorem dX6_user_2 : decode cX6_user 2 = .ok (.iload_n 1, 1) := by decide +kernel
theorem dX6_user_3 : decode cX6_user 3 = .ok (.invokevirtual 48, 3) := by decide +kernel
theorem dX6_user_6 : decode cX6_user 6 = .ok (.ifCond .ne 7, 3) := by decide +kernel
theorem dX6_user_9 : decode cX6_user 9 = .ok (.iconst 1, 1) := by decide +kernel
theorem dX6_user_10 : decode cX6_user 10 = .ok (.goto 17, 3) := by decide +kernel
theorem dX6_user_13 : decode cX6_user 13 = .ok (.iload_n 2, 1) := by decide +kernel
theorem dX6_user_14 : decode cX6_user 14 = .ok (.iconst 0, 1) := by decide +kernel
theorem dX6_user_15 : decode cX6_user 15 = .ok (.iconst 5, 1) := by decide +kernel
theorem dX6_user_16 : decode cX6_user 16 = .ok (.invokestatic 23, 3) := by decide +kernel
theorem dX6_user_19 : decode cX6_user 19 = .ok (.ifCond .ne 7, 3) := by decide +kernel
theorem dX6_user_22 : decode cX6_user 22 = .ok (.iconst 2, 1) := by decide +kernel
theorem dX6_user_23 : decode cX6_user 23 = .ok (.goto 4, 3) := by decide +kernel
theorem dX6_user_26 : decode cX6_user 26 = .ok (.iconst 0, 1) := by decide +kernel
theorem dX6_user_27 : decode cX6_user 27 = .ok (.putfield 19, 3) := by decide +kernel
theorem dX6_user_30 : decode cX6_user 30 = .ok (.aload_n 0, 1) := by decide +kernel
theorem dX6_user_31 : decode cX6_user 31 = .ok (.getfield 19, 3) := by decide +kernel
theorem dX6_user_34 : decode cX6_user 34 = .ok (.ifCond .le 7, 3) := by decide +kernel
theorem dX6_user_37 : decode cX6_user 37 = .ok (.iconst 0, 1) := by decide +kernel
theorem dX6_user_38 : decode cX6_user 38 = .ok (.goto 9, 3) := by decide +kernel
theorem dX6_user_41 : decode cX6_user 41 = .ok (.aload_n 0, 1) := by decide +kernel
theorem dX6_user_42 : decode cX6_user 42 = .ok (.iload_n 1, 1) := by decide +kernel
theorem dX6_user_43 : decode cX6_user 43 = .ok (.iload_n 2, 1) := by decide +kernel
theorem dX6_user_44 : decode cX6_user 44 = .ok (.invokevirtual 61, 3) := by decide +kernel
theorem dX6_user_47 : decode cX6_user 47 = .ok (.ireturn, 1) := by decide +kernel
set_option maxRecDepth 20000 in
theorem ggX6_shim_X6_isShim : GoodIn wsX6_shim wsX6_isShim := goodIn_r _ [6, 7, 8, 9, 5, 10, 15, 16, 17, 18, 19, 20, 21, 22, 23, 24, 25, 26, 27, 28] (by decide +kernel) (by decide +kernel)
set_option maxRecDepth 20000 in
theorem gX6_shim_X6_isShim : GoodIn wsX6_shim (wsV RX6 87 RX6 yX6_isShim wsX6_isShim) := goodIn_app (goodIn_of _ (by decide +kernel)) ggX6_shim_X6_isShim
set_option maxRecDepth 20000 in
theorem ggX6_shim_X6_in : GoodIn wsX6_shim wsX6_in := goodIn_r _ [10] (by decide +kernel) (by decide +kernel)
set_option maxRecDepth 20000 in
theorem gX6_shim_X6_in : GoodIn wsX6_shim (va_wsS RX6 23 yX6_in wsX6_in) := goodIn_app (goodIn_of _ (by decide +kernel)) ggX6_shim_X6_in
set_option maxRecDepth 20000 in
theorem ggX6_shim_X6_ofShim : GoodIn wsX6_shim wsX6_ofShim := goodIn_r _ [14, 7, 15, 16, 17, 18, 19, 20, 21, 22, 23, 24, 25, 26, 27, 28] (by decide +kernel) (by decide +kernel)
set_option maxRecDepth 20000 in
theorem gX6_shim_X6_ofShim : GoodIn wsX6_shim (wsV RX6 93 RX6 yX6_ofShim wsX6_ofShim) := goodIn_app (goodIn_of _ (by decide +kernel)) ggX6_shim_X6_ofShim
theorem dX6_shim_0 : decode cX6_shim 0 = .ok (.aload_n 0, 1) := by decide +kernel
theorem dX6_shim_1 : decode cX6_shim 1 = .ok (.aload_n 0, 1) := by decide +kernel
theorem dX6_shim_2 : decode cX6_shim 2 = .ok (.iload_n 1, 1) := by decide +kernel
theorem dX6_shim_3 : decode cX6_shim 3 = .ok (.invokevirtual 87, 3) := by decide +kernel
theorem dX6_shim_6 : decode cX6_shim 6 = .ok (.ifCond .ne 7, 3) := by decide +kernel
theorem dX6_shim_9 : decode cX6_shim 9 = .ok (.iconst 1, 1) := by decide +kernel
theorem dX6_shim_10 : decode cX6_shim 10 = .ok (.goto 17, 3) := by decide +kernel
theorem dX6_shim_13 : decode cX6_shim 13 = .ok (.iload_n 2, 1) := by decide +kernel
theorem dX6_shim_14 : decode cX6_shim 14 = .ok (.iconst 0, 1) := by decide +kernel
theorem dX6_shim_15 : decode cX6_shim 15 = .ok (.iconst 4, 1) := by decide +kernel
theorem dX6_shim_16 : decode cX6_shim 16 = .ok (.invokestatic 23, 3) := by decide +kernel
theorem dX6_shim_19 : decode cX6_shim 19 = .ok (.ifCond .ne 7, 3) := by decide +kernel
theorem dX6_shim_22 : decode cX6_shim 22 = .ok (.iconst 2, 1) := by decide +kernel
