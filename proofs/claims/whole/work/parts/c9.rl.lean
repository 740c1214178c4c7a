set_option maxRecDepth 20000 in
theorem ggL_addVersion_X5_addVersion : GoodIn wsL_addVersion wsX5_addVersion := goodIn_ca (goodIn_ca (goodIn_r _ [7, 8, 9, 10, 11, 12, 6, 13, 14, 15, 16, 17, 18, 19, 20, 21, 22, 23, 24, 25, 26, 27, 28, 29, 30, 31, 32, 33, 34, 35, 36, 37, 38, 39, 40, 41, 42, 43, 44, 45, 46, 47, 48, 49, 50, 51, 52, 53, 54, 55, 56, 57, 58, 59, 60, 61, 62, 63, 64, 65, 66, 67, 68, 69, 70, 71, 72, 73, 74, 75, 76, 77, 78, 79, 80, 81, 82, 83, 84, 85, 86, 87, 88, 89, 90, 91, 92, 93, 94, 95, 96, 97, 98, 99, 100, 101, 102, 103, 104, 105, 106, 107, 108, 109, 110, 111] (by decide +kernel) (by decide +kernel)) (goodIn_sub (fun _ h => List.mem_cons_of_mem _ (List.mem_append_left _ (List.mem_append_right _ h))) (by decide +kernel))) (goodIn_sub (fun _ h => List.mem_cons_of_mem _ (List.mem_append_right _ h)) (by decide +kernel))
set_option maxRecDepth 20000 in
theorem gL_addVersion_X5_addVersion : GoodIn wsL_addVersion (wsV RL 7 RX5 yX5_addVersion wsX5_addVersion) := goodIn_app (goodIn_of _ (by decide +kernel)) ggL_addVersion_X5_addVersion
theorem dL_addVersion_0 : decode cL_addVersion 0 = .ok (.aload_n 3, 1) := by decide +kernel
theorem dL_addVersion_1 : decode cL_addVersion 1 = .ok (.iconst 0, 1) := by decide +kernel
theorem dL_addVersion_2 : decode cL_addVersion 2 = .ok (.aload_n 0, 1) := by decide +kernel
theorem dL_addVersion_3 : decode cL_addVersion 3 = .ok (.iload_n 1, 1) := by decide +kernel
theorem dL_addVersion_4 : decode cL_addVersion 4 = .ok (.iload_n 2, 1) := by decide +kernel
theorem dL_addVersion_5 : decode cL_addVersion 5 = .ok (.invokevirtual 7, 3) := by decide +kernel
theorem dL_addVersion_8 : decode cL_addVersion 8 = .ok (.i2l, 1) := by decide +kernel
theorem dL_addVersion_9 : decode cL_addVersion 9 = .ok (.lastore, 1) := by decide +kernel
theorem dL_addVersion_10 : decode cL_addVersion 10 = .ok (.goto 11, 3) := by decide +kernel
theorem dL_addVersion_13 : decode cL_addVersion 13 = .ok (.astore 4, 2) := by decide +kernel
theorem dL_addVersion_15 : decode cL_addVersion 15 = .ok (.iconst 1, 1) := by decide +kernel
theorem dL_addVersion_16 : decode cL_addVersion 16 = .ok (.ireturn, 1) := by decide +kernel
theorem dL_addVersion_17 : decode cL_addVersion 17 = .ok (.astore 4, 2) := by decide +kernel
theorem dL_addVersion_19 : decode cL_addVersion 19 = .ok (.iconst 2, 1) := by decide +kernel
theorem dL_addVersion_20 : decode cL_addVersion 20 = .ok (.ireturn, 1) := by decide +kernel
theorem dL_addVersion_21 : decode cL_addVersion 21 = .ok (.iconst 0, 1) := by decide +kernel
theorem dL_addVersion_22 : decode cL_addVersion 22 = .ok (.ireturn, 1) := by decide +kernel
set_option maxRecDepth 20000 in
theorem ggL_addFeature_X5_addFeature : GoodIn wsL_addFeature wsX5_addFeature := goodIn_ca (goodIn_ca (goodIn_r _ [7, 8, 9, 10, 11, 12, 13, 6, 14, 15, 16, 17, 18, 19, 20, 21, 22, 23, 24, 25, 26, 27, 28, 29, 30, 31, 32, 33, 34, 35, 36, 37, 38, 39, 40, 41, 42, 43, 44, 45, 46, 47, 48, 49, 50, 51, 52, 53, 54, 55, 56, 57, 58, 59, 60, 61, 62, 63, 64, 65, 66, 67, 68, 69, 70, 71, 72, 73, 74, 75, 76, 77, 78, 79, 80, 81, 82, 83, 84, 85, 86, 87, 88, 89, 90, 91, 92, 93, 94, 95, 96, 97, 98, 99, 100, 101, 102, 103, 104, 105, 106, 107, 108, 109, 110, 111, 112, 113, 114, 115, 116, 117, 118, 119] (by decide +kernel) (by decide +kernel)) (goodIn_sub (fun _ h => List.mem_cons_of_mem _ (List.mem_append_left _ (List.mem_append_right _ h))) (by decide +kernel))) (goodIn_sub (fun _ h => List.mem_cons_of_mem _ (List.mem_append_right _ h)) (by decide +kernel))
set_option maxRecDepth 20000 in
theorem gL_addFeature_X5_addFeature : GoodIn wsL_addFeature (wsV RL 17 RX5 yX5_addFeature wsX5_addFeature) := goodIn_app (goodIn_of _ (by decide +kernel)) ggL_addFeature_X5_addFeature
theorem dL_addFeature_0 : decode cL_addFeature 0 = .ok (.aload_n 2, 1) := by decide +kernel
theorem dL_addFeature_1 : decode cL_addFeature 1 = .ok (.iconst 0, 1) := by decide +kernel
theorem dL_addFeature_2 : decode cL_addFeature 2 = .ok (.aload_n 0, 1) := by decide +kernel
theorem dL_addFeature_3 : decode cL_addFeature 3 = .ok (.iload_n 1, 1) := by decide +kernel
theorem dL_addFeature_4 : decode cL_addFeature 4 = .ok (.invokevirtual 17, 3) := by decide +kernel
theorem dL_addFeature_7 : decode cL_addFeature 7 = .ok (.i2l, 1) := by decide +kernel
theorem dL_addFeature_8 : decode cL_addFeature 8 = .ok (.lastore, 1) := by decide +kernel
theorem dL_addFeature_9 : decode cL_addFeature 9 = .ok (.goto 9, 3) := by decide +kernel
theorem dL_addFeature_12 : decode cL_addFeature 12 = .ok (.astore_n 3, 1) := by decide +kernel
theorem dL_addFeature_13 : decode cL_addFeature 13 = .ok (.iconst 1, 1) := by decide +kernel
theorem dL_addFeature_14 : decode cL_addFeature 14 = .ok (.ireturn, 1) := by decide +kernel
theorem dL_addFeature_15 : decode cL_addFeature 15 = .ok (.astore_n 3, 1) := by decide +kernel
theorem dL_addFeature_16 : decode cL_addFeature 16 = .ok (.iconst 2, 1) := by decide +kernel
theorem dL_addFeature_17 : decode cL_addFeature 17 = .ok (.ireturn, 1) := by decide +kernel
theorem dL_addFeature_18 : decode cL_addFeature 18 = .ok (.iconst 0, 1) := by decide +kernel
theorem dL_addFeature_19 : decode cL_addFeature 19 = .ok (.ireturn, 1) := by decide +kernel
set_option maxRecDepth 20000 in
theorem ggL_put_X5_put : GoodIn wsL_put wsX5_put := goodIn_ca (goodIn_ca (goodIn_r _ [7, 8, 9, 10, 11, 12, 13, 14, 6, 15, 16, 17, 18, 19, 20, 21, 22, 23, 24, 25, 26, 27, 28, 29, 30, 31, 32, 33, 34, 35, 36, 37, 38, 39, 40, 41, 42, 43, 44, 45, 46, 47, 48, 49, 50, 51, 52, 53, 54, 55, 56, 57, 58, 59, 60, 61, 62, 63, 64, 65, 66, 67, 68, 69, 70, 71, 72, 73, 74, 75, 76, 77, 78, 79, 80, 81, 82, 83, 84, 85, 86, 87, 88, 89, 90, 91, 92, 93, 94, 95, 96, 97, 98, 99, 100, 101, 102, 103, 104, 105, 106, 107, 108, 109, 110, 111, 112, 113, 114, 115, 116] (by decide +kernel) (by decide +kernel)) (goodIn_sub (fun _ h => List.mem_cons_of_mem _ (List.mem_append_left _ (List.mem_append_right _ h))) (by decide +kernel))) (goodIn_sub (fun _ h => List.mem_cons_of_mem _ (List.mem_append_right _ h)) (by decide +kernel))
set_option maxRecDepth 20000 in
theorem gL_put_X5_put : GoodIn wsL_put (wsV RL 21 RX5 yX5_put wsX5_put) := goodIn_app (goodIn_of _ (by decide +kernel)) ggL_put_X5_put
theorem dL_put_0 : decode cL_put 0 = .ok (.aload 4, 2) := by decide +kernel
theorem dL_put_2 : decode cL_put 2 = .ok (.iconst 0, 1) := by decide +kernel
theorem dL_put_3 : decode cL_put 3 = .ok (.aload_n 0, 1) := by decide +kernel
theorem dL_put_4 : decode cL_put 4 = .ok (.iload_n 1, 1) := by decide +kernel
theorem dL_put_5 : decode cL_put 5 = .ok (.iload_n 2, 1) := by decide +kernel
theorem dL_put_6 : decode cL_put 6 = .ok (.iload_n 3, 1) := by decide +kernel
theorem dL_put_7 : decode cL_put 7 = .ok (.invokevirtual 21, 3) := by decide +kernel
theorem dL_put_10 : decode cL_put 10 = .ok (.i2l, 1) := by decide +kernel
theorem dL_put_11 : decode cL_put 11 = .ok (.lastore, 1) := by decide +kernel
theorem dL_put_12 : decode cL_put 12 = .ok (.goto 11, 3) := by decide +kernel
theorem dL_put_15 : decode cL_put 15 = .ok (.astore 5, 2) := by decide +kernel
theorem dL_put_17 : decode cL_put 17 = .ok (.iconst 1, 1) := by decide +kernel
theorem dL_put_18 : decode cL_put 18 = .ok (.ireturn, 1) := by decide +kernel
theorem dL_put_19 : decode cL_put 19 = .ok (.astore 5, 2) := by decide +kernel
theorem dL_put_21 : decode cL_put 21 = .ok (.iconst 2, 1) := by decide +kernel
theorem dL_put_22 : decode cL_put 22 = .ok (.ireturn, 1) := by decide +kernel
theorem dL_put_23 : decode cL_put 23 = .ok (.iconst 0, 1) := by decide +kernel
theorem dL_put_24 : decode cL_put 24 = .ok (.ireturn, 1) := by decide +kernel
set_option maxRecDepth 20000 in
theorem ggL_addUser_X5_addUser : GoodIn wsL_addUser wsX5_addUser := goodIn_ca (goodIn_ca (goodIn_ca (goodIn_r _ [8, 9, 10, 11, 12, 13, 14, 15, 16, 7, 17, 18, 19, 20, 21, 22, 23, 24, 25, 26, 27, 28, 29, 30, 31, 32, 33, 34, 35, 36, 37, 38, 39, 40, 41, 42, 43, 44, 45, 46, 47, 48, 49, 50, 51, 52, 53, 54, 55, 56, 57, 58, 59, 60, 61, 62, 63, 64, 65, 66, 67, 68, 69, 70, 71, 72, 73, 74, 75, 76, 77, 78, 79, 80, 81, 82, 83, 84, 85, 86, 87, 88, 89, 90, 91, 92, 93, 94, 95, 96, 97, 98, 99, 100, 101, 102, 103, 104, 105, 106, 107, 108, 109, 110, 111, 112, 113, 114, 115, 116, 117, 118, 119, 120, 121, 122, 123, 124, 125, 126, 127, 128, 129, 130] (by decide +kernel) (by decide +kernel)) (goodIn_sub (fun _ h => List.mem_cons_of_mem _ (List.mem_append_left _ (List.mem_append_left _ (List.mem_append_right _ h)))) (by decide +kernel))) (goodIn_sub (fun _ h => List.mem_cons_of_mem _ (List.mem_append_left _ (List.mem_append_right _ h))) (by decide +kernel))) (goodIn_sub (fun _ h => List.mem_cons_of_mem _ (List.mem_append_right _ h)) (by decide +kernel))
set_option maxRecDepth 20000 in
theorem gL_addUser_X5_addUser : GoodIn wsL_addUser (wsV RL 27 RX5 yX5_addUser wsX5_addUser) := goodIn_app (goodIn_of _ (by decide +kernel)) ggL_addUser_X5_addUser
theorem dL_addUser_0 : decode cL_addUser 0 = .ok (.aload_n 3, 1) := by decide +kernel
theorem dL_addUser_1 : decode cL_addUser 1 = .ok (.iconst 0, 1) := by decide +kernel
theorem dL_addUser_2 : decode cL_addUser 2 = .ok (.aload_n 0, 1) := by decide +kernel
theorem dL_addUser_3 : decode cL_addUser 3 = .ok (.iload_n 1, 1) := by decide +kernel
theorem dL_addUser_4 : decode cL_addUser 4 = .ok (.iload_n 2, 1) := by decide +kernel
theorem dL_addUser_5 : decode cL_addUser 5 = .ok (.invokevirtual 27, 3) := by decide +kernel
theorem dL_addUser_8 : decode cL_addUser 8 = .ok (.i2l, 1) := by decide +kernel
theorem dL_addUser_9 : decode cL_addUser 9 = .ok (.lastore, 1) := by decide +kernel
theorem dL_addUser_10 : decode cL_addUser 10 = .ok (.goto 15, 3) := by decide +kernel
theorem dL_addUser_13 : decode cL_addUser 13 = .ok (.astore 4, 2) := by decide +kernel
theorem dL_addUser_15 : decode cL_addUser 15 = .ok (.iconst 1, 1) := by decide +kernel
theorem dL_addUser_16 : decode cL_addUser 16 = .ok (.ireturn, 1) := by decide +kernel
theorem dL_addUser_17 : decode cL_addUser 17 = .ok (.astore 4, 2) := by decide +kernel
theorem dL_addUser_19 : decode cL_addUser 19 = .ok (.iconst 2, 1) := by decide +kernel
theorem dL_addUser_20 : decode cL_addUser 20 = .ok (.ireturn, 1) := by decide +kernel
theorem dL_addUser_21 : decode cL_addUser 21 = .ok (.astore 4, 2) := by decide +kernel
theorem dL_addUser_23 : decode cL_addUser 23 = .ok (.iconst 3, 1) := by decide +kernel
theorem dL_addUser_24 : decode cL_addUser 24 = .ok (.ireturn, 1) := by decide +kernel
theorem dL_addUser_25 : decode cL_addUser 25 = .ok (.iconst 0, 1) := by decide +kernel
theorem dL_addUser_26 : decode cL_addUser 26 = .ok (.ireturn, 1) := by decide +kernel
set_option maxRecDepth 20000 in
theorem ggL_pledge_X5_pledge : GoodIn wsL_pledge wsX5_pledge := goodIn_ca (goodIn_ca (goodIn_ca (goodIn_r _ [7, 8, 9, 10, 11, 12, 13, 14, 15, 16, 17, 18, 19, 20, 6, 21, 22, 23, 24, 25, 26, 27, 28, 29, 30, 31, 32, 33, 34, 35, 36, 37, 38, 39, 40, 41, 42, 43, 44, 45, 46, 47, 48, 49, 50, 51, 52, 53, 54, 55, 56, 57, 58, 59, 60, 61, 62, 63, 64, 65, 66, 67, 68, 69, 70, 71, 72, 73, 74, 75, 76, 77, 78, 79, 80, 81, 82, 83, 84, 85, 86, 87, 88, 89, 90, 91, 92, 93, 94, 95, 96, 97, 98, 99, 100, 101, 102, 103, 104, 105, 106, 107, 108, 109, 110, 111, 112, 113, 114, 115, 116, 117] (by decide +kernel) (by decide +kernel)) (goodIn_sub (fun _ h => List.mem_cons_of_mem _ (List.mem_append_left _ (List.mem_append_left _ (List.mem_append_right _ h)))) (by decide +kernel))) (goodIn_sub (fun _ h => List.mem_cons_of_mem _ (List.mem_append_left _ (List.mem_append_right _ h))) (by decide +kernel))) (goodIn_sub (fun _ h => List.mem_cons_of_mem _ (List.mem_append_right _ h)) (by decide +kernel))
set_option maxRecDepth 20000 in
theorem gL_pledge_X5_pledge : GoodIn wsL_pledge (wsV RL 30 RX5 yX5_pledge wsX5_pledge) := goodIn_app (goodIn_of _ (by decide +kernel)) ggL_pledge_X5_pledge
theorem dL_pledge_0 : decode cL_pledge 0 = .ok (.aload 4, 2) := by decide +kernel
theorem dL_pledge_2 : decode cL_pledge 2 = .ok (.iconst 0, 1) := by decide +kernel
theorem dL_pledge_3 : decode cL_pledge 3 = .ok (.aload_n 0, 1) := by decide +kernel
theorem dL_pledge_4 : decode cL_pledge 4 = .ok (.iload_n 1, 1) := by decide +kernel
theorem dL_pledge_5 : decode cL_pledge 5 = .ok (.iload_n 2, 1) := by decide +kernel
theorem dL_pledge_6 : decode cL_pledge 6 = .ok (.iload_n 3, 1) := by decide +kernel
theorem dL_pledge_7 : decode cL_pledge 7 = .ok (.invokevirtual 30, 3) := by decide +kernel
theorem dL_pledge_10 : decode cL_pledge 10 = .ok (.i2l, 1) := by decide +kernel
theorem dL_pledge_11 : decode cL_pledge 11 = .ok (.lastore, 1) := by decide +kernel
theorem dL_pledge_12 : decode cL_pledge 12 = .ok (.goto 11, 3) := by decide +kernel
theorem dL_pledge_15 : decode cL_pledge 15 = .ok (.astore 5, 2) := by decide +kernel
theorem dL_pledge_17 : decode cL_pledge 17 = .ok (.iconst 1, 1) := by decide +kernel
theorem dL_pledge_18 : decode cL_pledge 18 = .ok (.ireturn, 1) := by decide +kernel
theorem dL_pledge_19 : decode cL_pledge 19 = .ok (.astore 5, 2) := by decide +kernel
theorem dL_pledge_21 : decode cL_pledge 21 = .ok (.iconst 2, 1) := by decide +kernel
theorem dL_pledge_22 : decode cL_pledge 22 = .ok (.ireturn, 1) := by decide +kernel
theorem dL_pledge_23 : decode cL_pledge 23 = .ok (.iconst 0, 1) := by decide +kernel
theorem dL_pledge_24 : decode cL_pledge 24 = .ok (.ireturn, 1) := by decide +kernel
set_option maxRecDepth 20000 in
theorem ggL_takeBack_X5_takeBack : GoodIn wsL_takeBack wsX5_takeBack := goodIn_ca (goodIn_ca (goodIn_r _ [7, 8, 9, 10, 11, 12, 13, 6, 14, 15, 16, 17, 18, 19, 20, 21, 22, 23, 24, 25, 26, 27, 28, 29, 30, 31, 32, 33, 34, 35, 36, 37, 38, 39, 40, 41, 42, 43, 44, 45, 46, 47, 48, 49, 50, 51, 52, 53, 54, 55, 56, 57, 58, 59, 60, 61, 62, 63, 64, 65, 66, 67, 68, 69, 70, 71, 72, 73, 74, 75, 76, 77, 78, 79, 80, 81, 82, 83, 84, 85, 86, 87, 88, 89, 90, 91, 92, 93, 94, 95, 96, 97, 98, 99, 100, 101, 102, 103, 104, 105, 106, 107, 108, 109, 110, 111, 112, 113, 114, 115, 116] (by decide +kernel) (by decide +kernel)) (goodIn_sub (fun _ h => List.mem_cons_of_mem _ (List.mem_append_left _ (List.mem_append_right _ h))) (by decide +kernel))) (goodIn_sub (fun _ h => List.mem_cons_of_mem _ (List.mem_append_right _ h)) (by decide +kernel))
set_option maxRecDepth 20000 in
theorem gL_takeBack_X5_takeBack : GoodIn wsL_takeBack (wsV RL 34 RX5 yX5_takeBack wsX5_takeBack) := goodIn_app (goodIn_of _ (by decide +kernel)) ggL_takeBack_X5_takeBack
theorem dL_takeBack_0 : decode cL_takeBack 0 = .ok (.aload_n 2, 1) := by decide +kernel
theorem dL_takeBack_1 : decode cL_takeBack 1 = .ok (.iconst 0, 1) := by decide +kernel
theorem dL_takeBack_2 : decode cL_takeBack 2 = .ok (.aload_n 0, 1) := by decide +kernel
theorem dL_takeBack_3 : decode cL_takeBack 3 = .ok (.iload_n 1, 1) := by decide +kernel
theorem dL_takeBack_4 : decode cL_takeBack 4 = .ok (.invokevirtual 34, 3) := by decide +kernel
theorem dL_takeBack_7 : decode cL_takeBack 7 = .ok (.i2l, 1) := by decide +kernel
theorem dL_takeBack_8 : decode cL_takeBack 8 = .ok (.lastore, 1) := by decide +kernel
theorem dL_takeBack_9 : decode cL_takeBack 9 = .ok (.goto 9, 3) := by decide +kernel
theorem dL_takeBack_12 : decode cL_takeBack 12 = .ok (.astore_n 3, 1) := by decide +kernel
theorem dL_takeBack_13 : decode cL_takeBack 13 = .ok (.iconst 1, 1) := by decide +kernel
theorem dL_takeBack_14 : decode cL_takeBack 14 = .ok (.ireturn, 1) := by decide +kernel
theorem dL_takeBack_15 : decode cL_takeBack 15 = .ok (.astore_n 3, 1) := by decide +kernel
theorem dL_takeBack_16 : decode cL_takeBack 16 = .ok (.iconst 2, 1) := by decide +kernel
theorem dL_takeBack_17 : decode cL_takeBack 17 = .ok (.ireturn, 1) := by decide +kernel
theorem dL_takeBack_18 : decode cL_takeBack 18 = .ok (.iconst 0, 1) := by decide +kernel
theorem dL_takeBack_19 : decode cL_takeBack 19 = .ok (.ireturn, 1) := by decide +kernel
set_option maxRecDepth 20000 in
theorem ggL_slip_X5_slip : GoodIn wsL_slip wsX5_slip := goodIn_ca (goodIn_ca (goodIn_ca (goodIn_r _ [8, 9, 10, 11, 12, 13, 14, 15, 16, 17, 18, 19, 20, 7, 21, 22, 23, 24, 25, 26, 27, 28, 29, 30, 31, 32, 33, 34, 35, 36, 37, 38, 39, 40, 41, 42, 43, 44, 45, 46, 47, 48, 49, 50, 51, 52, 53, 54, 55, 56, 57, 58, 59, 60, 61, 62, 63, 64, 65, 66, 67, 68, 69, 70, 71, 72, 73, 74, 75, 76, 77, 78, 79, 80, 81, 82, 83, 84, 85, 86, 87, 88, 89, 90, 91, 92, 93, 94, 95, 96, 97, 98, 99, 100, 101, 102, 103, 104, 105, 106, 107, 108, 109, 110, 111, 112, 113, 114, 115, 116, 117, 118, 119, 120, 121, 122] (by decide +kernel) (by decide +kernel)) (goodIn_sub (fun _ h => List.mem_cons_of_mem _ (List.mem_append_left _ (List.mem_append_left _ (List.mem_append_right _ h)))) (by decide +kernel))) (goodIn_sub (fun _ h => List.mem_cons_of_mem _ (List.mem_append_left _ (List.mem_append_right _ h))) (by decide +kernel))) (goodIn_sub (fun _ h => List.mem_cons_of_mem _ (List.mem_append_right _ h)) (by decide +kernel))
set_option maxRecDepth 20000 in
theorem gL_slip_X5_slip : GoodIn wsL_slip (wsV RL 37 RX5 yX5_slip wsX5_slip) := goodIn_app (goodIn_of _ (by decide +kernel)) ggL_slip_X5_slip
theorem dL_slip_0 : decode cL_slip 0 = .ok (.aload_n 3, 1) := by decide +kernel
theorem dL_slip_1 : decode cL_slip 1 = .ok (.iconst 0, 1) := by decide +kernel
theorem dL_slip_2 : decode cL_slip 2 = .ok (.aload_n 0, 1) := by decide +kernel
theorem dL_slip_3 : decode cL_slip 3 = .ok (.iload_n 1, 1) := by decide +kernel
theorem dL_slip_4 : decode cL_slip 4 = .ok (.iload_n 2, 1) := by decide +kernel
theorem dL_slip_5 : decode cL_slip 5 = .ok (.invokevirtual 37, 3) := by decide +kernel
theorem dL_slip_8 : decode cL_slip 8 = .ok (.i2l, 1) := by decide +kernel
theorem dL_slip_9 : decode cL_slip 9 = .ok (.lastore, 1) := by decide +kernel
theorem dL_slip_10 : decode cL_slip 10 = .ok (.goto 15, 3) := by decide +kernel
theorem dL_slip_13 : decode cL_slip 13 = .ok (.astore 4, 2) := by decide +kernel
theorem dL_slip_15 : decode cL_slip 15 = .ok (.iconst 1, 1) := by decide +kernel
theorem dL_slip_16 : decode cL_slip 16 = .ok (.ireturn, 1) := by decide +kernel
theorem dL_slip_17 : decode cL_slip 17 = .ok (.astore 4, 2) := by decide +kernel
theorem dL_slip_19 : decode cL_slip 19 = .ok (.iconst 2, 1) := by decide +kernel
theorem dL_slip_20 : decode cL_slip 20 = .ok (.ireturn, 1) := by decide +kernel
theorem dL_slip_21 : decode cL_slip 21 = .ok (.astore 4, 2) := by decide +kernel
theorem dL_slip_23 : decode cL_slip 23 = .ok (.iconst 3, 1) := by decide +kernel
theorem dL_slip_24 : decode cL_slip 24 = .ok (.ireturn, 1) := by decide +kernel
theorem dL_slip_25 : decode cL_slip 25 = .ok (.iconst 0, 1) := by decide +kernel
theorem dL_slip_26 : decode cL_slip 26 = .ok (.ireturn, 1) := by decide +kernel
set_option maxRecDepth 20000 in
theorem ggL_extend_X5_extend : GoodIn wsL_extend wsX5_extend := goodIn_ca (goodIn_ca (goodIn_ca (goodIn_r _ [8, 9, 10, 11, 12, 13, 14, 15, 16, 17, 18, 19, 20, 7, 21, 22, 23, 24, 25, 26, 27, 28, 29, 30, 31, 32, 33, 34, 35, 36, 37, 38, 39, 40, 41, 42, 43, 44, 45, 46, 47, 48, 49, 50, 51, 52, 53, 54, 55, 56, 57, 58, 59, 60, 61, 62, 63, 64, 65, 66, 67, 68, 69, 70, 71, 72, 73, 74, 75, 76, 77, 78, 79, 80, 81, 82, 83, 84, 85, 86, 87, 88, 89, 90, 91, 92, 93, 94, 95, 96, 97, 98, 99, 100, 101, 102, 103, 104, 105, 106, 107, 108, 109, 110, 111, 112, 113, 114, 115, 116, 117, 118] (by decide +kernel) (by decide +kernel)) (goodIn_sub (fun _ h => List.mem_cons_of_mem _ (List.mem_append_left _ (List.mem_append_left _ (List.mem_append_right _ h)))) (by decide +kernel))) (goodIn_sub (fun _ h => List.mem_cons_of_mem _ (List.mem_append_left _ (List.mem_append_right _ h))) (by decide +kernel))) (goodIn_sub (fun _ h => List.mem_cons_of_mem _ (List.mem_append_right _ h)) (by decide +kernel))
set_option maxRecDepth 20000 in
theorem gL_extend_X5_extend : GoodIn wsL_extend (wsV RL 40 RX5 yX5_extend wsX5_extend) := goodIn_app (goodIn_of _ (by decide +kernel)) ggL_extend_X5_extend
theorem dL_extend_0 : decode cL_extend 0 = .ok (.aload_n 3, 1) := by decide +kernel
theorem dL_extend_1 : decode cL_extend 1 = .ok (.iconst 0, 1) := by decide +kernel
theorem dL_extend_2 : decode cL_extend 2 = .ok (.aload_n 0, 1) := by decide +kernel
theorem dL_extend_3 : decode cL_extend 3 = .ok (.iload_n 1, 1) := by decide +kernel
theorem dL_extend_4 : decode cL_extend 4 = .ok (.iload_n 2, 1) := by decide +kernel
theorem dL_extend_5 : decode cL_extend 5 = .ok (.invokevirtual 40, 3) := by decide +kernel
theorem dL_extend_8 : decode cL_extend 8 = .ok (.i2l, 1) := by decide +kernel
theorem dL_extend_9 : decode cL_extend 9 = .ok (.lastore, 1) := by decide +kernel
theorem dL_extend_10 : decode cL_extend 10 = .ok (.goto 15, 3) := by decide +kernel
theorem dL_extend_13 : decode cL_extend 13 = .ok (.astore 4, 2) := by decide +kernel
theorem dL_extend_15 : decode cL_extend 15 = .ok (.iconst 1, 1) := by decide +kernel
theorem dL_extend_16 : decode cL_extend 16 = .ok (.ireturn, 1) := by decide +kernel
theorem dL_extend_17 : decode cL_extend 17 = .ok (.astore 4, 2) := by decide +kernel
theorem dL_extend_19 : decode cL_extend 19 = .ok (.iconst 2, 1) := by decide +kernel
theorem dL_extend_20 : decode cL_extend 20 = .ok (.ireturn, 1) := by decide +kernel
theorem dL_extend_21 : decode cL_extend 21 = .ok (.astore 4, 2) := by decide +kernel
theorem dL_extend_23 : decode cL_extend 23 = .ok (.iconst 3, 1) := by decide +kernel
theorem dL_extend_24 : decode cL_extend 24 = .ok (.ireturn, 1) := by decide +kernel
theorem dL_extend_25 : decode cL_extend 25 = .ok (.iconst 0, 1) := by decide +kernel
theorem dL_extend_26 : decode cL_extend 26 = .ok (.ireturn, 1) := by decide +kernel
set_option maxRecDepth 20000 in
theorem ggL_addShim_X5_addShim : GoodIn wsL_addShim wsX5_addShim := goodIn_ca (goodIn_ca (goodIn_ca (goodIn_r _ [8, 9, 10, 11, 12, 13, 14, 15, 16, 17, 18, 19, 20, 21, 7, 22, 23, 24, 25, 26, 27, 28, 29, 30, 31, 32, 33, 34, 35, 36, 37, 38, 39, 40, 41, 42, 43, 44, 45, 46, 47, 48, 49, 50, 51, 52, 53, 54, 55, 56, 57, 58, 59, 60, 61, 62, 63, 64, 65, 66, 67, 68, 69, 70, 71, 72, 73, 74, 75, 76, 77, 78, 79, 80, 81, 82, 83, 84, 85, 86, 87, 88, 89, 90, 91, 92, 93, 94, 95, 96, 97, 98, 99, 100, 101, 102, 103, 104, 105, 106, 107, 108, 109, 110, 111, 112, 113, 114, 115, 116, 117] (by decide +kernel) (by decide +kernel)) (goodIn_sub (fun _ h => List.mem_cons_of_mem _ (List.mem_append_left _ (List.mem_append_left _ (List.mem_append_right _ h)))) (by decide +kernel))) (goodIn_sub (fun _ h => List.mem_cons_of_mem _ (List.mem_append_left _ (List.mem_append_right _ h))) (by decide +kernel))) (goodIn_sub (fun _ h => List.mem_cons_of_mem _ (List.mem_append_right _ h)) (by decide +kernel))
set_option maxRecDepth 20000 in
theorem gL_addShim_X5_addShim : GoodIn wsL_addShim (wsV RL 43 RX5 yX5_addShim wsX5_addShim) := goodIn_app (goodIn_of _ (by decide +kernel)) ggL_addShim_X5_addShim
theorem dL_addShim_0 : decode cL_addShim 0 = .ok (.aload 6, 2) := by decide +kernel
theorem dL_addShim_2 : decode cL_addShim 2 = .ok (.iconst 0, 1) := by decide +kernel
theorem dL_addShim_3 : decode cL_addShim 3 = .ok (.aload_n 0, 1) := by decide +kernel
theorem dL_addShim_4 : decode cL_addShim 4 = .ok (.iload_n 1, 1) := by decide +kernel
theorem dL_addShim_5 : decode cL_addShim 5 = .ok (.iload_n 2, 1) := by decide +kernel
theorem dL_addShim_6 : decode cL_addShim 6 = .ok (.iload_n 3, 1) := by decide +kernel
theorem dL_addShim_7 : decode cL_addShim 7 = .ok (.iload 4, 2) := by decide +kernel
theorem dL_addShim_9 : decode cL_addShim 9 = .ok (.iload 5, 2) := by decide +kernel
theorem dL_addShim_11 : decode cL_addShim 11 = .ok (.invokevirtual 43, 3) := by decide +kernel
theorem dL_addShim_14 : decode cL_addShim 14 = .ok (.i2l, 1) := by decide +kernel
theorem dL_addShim_15 : decode cL_addShim 15 = .ok (.lastore, 1) := by decide +kernel
theorem dL_addShim_16 : decode cL_addShim 16 = .ok (.goto 15, 3) := by decide +kernel
theorem dL_addShim_19 : decode cL_addShim 19 = .ok (.astore 7, 2) := by decide +kernel
theorem dL_addShim_21 : decode cL_addShim 21 = .ok (.iconst 1, 1) := by decide +kernel
theorem dL_addShim_22 : decode cL_addShim 22 = .ok (.ireturn, 1) := by decide +kernel
theorem dL_addShim_23 : decode cL_addShim 23 = .ok (.astore 7, 2) := by decide +kernel
theorem dL_addShim_25 : decode cL_addShim 25 = .ok (.iconst 2, 1) := by decide +kernel
theorem dL_addShim_26 : decode cL_addShim 26 = .ok (.ireturn, 1) := by decide +kernel
theorem dL_addShim_27 : decode cL_addShim 27 = .ok (.astore 7, 2) := by decide +kernel
theorem dL_addShim_29 : decode cL_addShim 29 = .ok (.iconst 3, 1) := by decide +kernel
theorem dL_addShim_30 : decode cL_addShim 30 = .ok (.ireturn, 1) := by decide +kernel
theorem dL_addShim_31 : decode cL_addShim 31 = .ok (.iconst 0, 1) := by decide +kernel
theorem dL_addShim_32 : decode cL_addShim 32 = .ok (.ireturn, 1) := by decide +kernel
set_option maxRecDepth 20000 in
theorem ggL_dropShim_X5_dropShim : GoodIn wsL_dropShim wsX5_dropShim := goodIn_ca (goodIn_ca (goodIn_ca (goodIn_r _ [6, 7, 8, 9, 10, 11, 12, 13, 14, 15, 16, 17, 5, 18, 19, 20, 21, 22, 23, 24, 25, 26, 27, 28, 29, 30, 31, 32, 33, 34, 35, 36, 37, 38, 39, 40, 41, 42, 43, 44, 45, 46, 47, 48, 49, 50, 51, 52, 53, 54, 55, 56, 57, 58, 59, 60, 61, 62, 63, 64, 65, 66, 67, 68, 69, 70, 71, 72, 73, 74, 75, 76, 77, 78, 79, 80, 81, 82, 83, 84, 85, 86, 87, 88, 89, 90, 91, 92, 93, 94, 95, 96, 97, 98, 99, 100, 101, 102, 103, 104, 105, 106, 107, 108, 109, 110, 111, 112, 113] (by decide +kernel) (by decide +kernel)) (goodIn_sub (fun _ h => List.mem_cons_of_mem _ (List.mem_append_left _ (List.mem_append_left _ (List.mem_append_right _ h)))) (by decide +kernel))) (goodIn_sub (fun _ h => List.mem_cons_of_mem _ (List.mem_append_left _ (List.mem_append_right _ h))) (by decide +kernel))) (goodIn_sub (fun _ h => List.mem_cons_of_mem _ (List.mem_append_right _ h)) (by decide +kernel))
set_option maxRecDepth 20000 in
theorem gL_dropShim_X5_dropShim : GoodIn wsL_dropShim (wsV RL 47 RX5 yX5_dropShim wsX5_dropShim) := goodIn_app (goodIn_of _ (by decide +kernel)) ggL_dropShim_X5_dropShim
theorem dL_dropShim_0 : decode cL_dropShim 0 = .ok (.aload_n 2, 1) := by decide +kernel
theorem dL_dropShim_1 : decode cL_dropShim 1 = .ok (.iconst 0, 1) := by decide +kernel
theorem dL_dropShim_2 : decode cL_dropShim 2 = .ok (.aload_n 0, 1) := by decide +kernel
theorem dL_dropShim_3 : decode cL_dropShim 3 = .ok (.iload_n 1, 1) := by decide +kernel
theorem dL_dropShim_4 : decode cL_dropShim 4 = .ok (.invokevirtual 47, 3) := by decide +kernel
theorem dL_dropShim_7 : decode cL_dropShim 7 = .ok (.i2l, 1) := by decide +kernel
theorem dL_dropShim_8 : decode cL_dropShim 8 = .ok (.lastore, 1) := by decide +kernel
theorem dL_dropShim_9 : decode cL_dropShim 9 = .ok (.goto 6, 3) := by decide +kernel
theorem dL_dropShim_12 : decode cL_dropShim 12 = .ok (.astore_n 3, 1) := by decide +kernel
theorem dL_dropShim_13 : decode cL_dropShim 13 = .ok (.iconst 1, 1) := by decide +kernel
theorem dL_dropShim_14 : decode cL_dropShim 14 = .ok (.ireturn, 1) := by decide +kernel
theorem dL_dropShim_15 : decode cL_dropShim 15 = .ok (.iconst 0, 1) := by decide +kernel
theorem dL_dropShim_16 : decode cL_dropShim 16 = .ok (.ireturn, 1) := by decide +kernel
set_option maxRecDepth 20000 in
theorem ggL_version_X5_version : GoodIn wsL_version wsX5_version := goodIn_ca (goodIn_ca (goodIn_r _ [7, 8, 9, 10, 11, 12, 6, 13, 14, 15, 16, 17, 18, 19, 20, 21, 22, 23, 24, 25, 26, 27, 28, 29, 30, 31, 32, 33, 34, 35, 36, 37, 38, 39, 40, 41, 42, 43, 44, 45, 46, 47, 48, 49, 50, 51, 52, 53, 54, 55, 56, 57, 58, 59, 60, 61, 62, 63] (by decide +kernel) (by decide +kernel)) (goodIn_sub (fun _ h => List.mem_cons_of_mem _ (List.mem_append_left _ (List.mem_append_right _ h))) (by decide +kernel))) (goodIn_sub (fun _ h => List.mem_cons_of_mem _ (List.mem_append_right _ h)) (by decide +kernel))
set_option maxRecDepth 20000 in
theorem gL_version_X5_version : GoodIn wsL_version (wsV RL 50 RX5 yX5_version wsX5_version) := goodIn_app (goodIn_of _ (by decide +kernel)) ggL_version_X5_version
theorem dL_version_0 : decode cL_version 0 = .ok (.aload_n 3, 1) := by decide +kernel
theorem dL_version_1 : decode cL_version 1 = .ok (.iconst 0, 1) := by decide +kernel
theorem dL_version_2 : decode cL_version 2 = .ok (.aload_n 0, 1) := by decide +kernel
theorem dL_version_3 : decode cL_version 3 = .ok (.iload_n 1, 1) := by decide +kernel
theorem dL_version_4 : decode cL_version 4 = .ok (.iload_n 2, 1) := by decide +kernel
theorem dL_version_5 : decode cL_version 5 = .ok (.invokevirtual 50, 3) := by decide +kernel
theorem dL_version_8 : decode cL_version 8 = .ok (.i2l, 1) := by decide +kernel
theorem dL_version_9 : decode cL_version 9 = .ok (.lastore, 1) := by decide +kernel
theorem dL_version_10 : decode cL_version 10 = .ok (.goto 11, 3) := by decide +kernel
theorem dL_version_13 : decode cL_version 13 = .ok (.astore 4, 2) := by decide +kernel
theorem dL_version_15 : decode cL_version 15 = .ok (.iconst 1, 1) := by decide +kernel
theorem dL_version_16 : decode cL_version 16 = .ok (.ireturn, 1) := by decide +kernel
theorem dL_version_17 : decode cL_version 17 = .ok (.astore 4, 2) := by decide +kernel
theorem dL_version_19 : decode cL_version 19 = .ok (.iconst 2, 1) := by decide +kernel
theorem dL_version_20 : decode cL_version 20 = .ok (.ireturn, 1) := by decide +kernel
theorem dL_version_21 : decode cL_version 21 = .ok (.iconst 0, 1) := by decide +kernel
theorem dL_version_22 : decode cL_version 22 = .ok (.ireturn, 1) := by decide +kernel
set_option maxRecDepth 20000 in
theorem ggL_user_X5_user : GoodIn wsL_user wsX5_user := goodIn_ca (goodIn_ca (goodIn_r _ [7, 8, 9, 10, 11, 12, 6, 13, 14, 15, 16, 17, 18, 19, 20, 21, 22, 23, 24, 25, 26, 27, 28, 29, 30, 31, 32, 33, 34, 35, 36, 37, 38, 39, 40, 41, 42, 43, 44, 45, 46, 47, 48, 49, 50, 51, 52] (by decide +kernel) (by decide +kernel)) (goodIn_sub (fun _ h => List.mem_cons_of_mem _ (List.mem_append_left _ (List.mem_append_right _ h))) (by decide +kernel))) (goodIn_sub (fun _ h => List.mem_cons_of_mem _ (List.mem_append_right _ h)) (by decide +kernel))
set_option maxRecDepth 20000 in
theorem gL_user_X5_user : GoodIn wsL_user (wsV RL 53 RX5 yX5_user wsX5_user) := goodIn_app (goodIn_of _ (by decide +kernel)) ggL_user_X5_user
theorem dL_user_0 : decode cL_user 0 = .ok (.aload_n 3, 1) := by decide +kernel
theorem dL_user_1 : decode cL_user 1 = .ok (.iconst 0, 1) := by decide +kernel
theorem dL_user_2 : decode cL_user 2 = .ok (.aload_n 0, 1) := by decide +kernel
theorem dL_user_3 : decode cL_user 3 = .ok (.iload_n 1, 1) := by decide +kernel
theorem dL_user_4 : decode cL_user 4 = .ok (.iload_n 2, 1) := by decide +kernel
theorem dL_user_5 : decode cL_user 5 = .ok (.invokevirtual 53, 3) := by decide +kernel
theorem dL_user_8 : decode cL_user 8 = .ok (.i2l, 1) := by decide +kernel
theorem dL_user_9 : decode cL_user 9 = .ok (.lastore, 1) := by decide +kernel
theorem dL_user_10 : decode cL_user 10 = .ok (.goto 11, 3) := by decide +kernel
theorem dL_user_13 : decode cL_user 13 = .ok (.astore 4, 2) := by decide +kernel
theorem dL_user_15 : decode cL_user 15 = .ok (.iconst 1, 1) := by decide +kernel
theorem dL_user_16 : decode cL_user 16 = .ok (.ireturn, 1) := by decide +kernel
theorem dL_user_17 : decode cL_user 17 = .ok (.astore 4, 2) := by decide +kernel
theorem dL_user_19 : decode cL_user 19 = .ok (.iconst 2, 1) := by decide +kernel
theorem dL_user_20 : decode cL_user 20 = .ok (.ireturn, 1) := by decide +kernel
theorem dL_user_21 : decode cL_user 21 = .ok (.iconst 0, 1) := by decide +kernel
theorem dL_user_22 : decode cL_user 22 = .ok (.ireturn, 1) := by decide +kernel
set_option maxRecDepth 20000 in
theorem ggL_shim_X5_shim : GoodIn wsL_shim wsX5_shim := goodIn_ca (goodIn_ca (goodIn_r _ [7, 8, 9, 10, 11, 12, 6, 13, 14, 15, 16, 17, 18, 19, 20, 21, 22, 23, 24, 25, 26, 27, 28, 29, 30, 31, 32, 33, 34, 35, 36, 37, 38, 39, 40, 41, 42, 43, 44, 45, 46, 47, 48, 49, 50] (by decide +kernel) (by decide +kernel)) (goodIn_sub (fun _ h => List.mem_cons_of_mem _ (List.mem_append_left _ (List.mem_append_right _ h))) (by decide +kernel))) (goodIn_sub (fun _ h => List.mem_cons_of_mem _ (List.mem_append_right _ h)) (by decide +kernel))
set_option maxRecDepth 20000 in
theorem gL_shim_X5_shim : GoodIn wsL_shim (wsV RL 56 RX5 yX5_shim wsX5_shim) := goodIn_app (goodIn_of _ (by decide +kernel)) ggL_shim_X5_shim
theorem dL_shim_0 : decode cL_shim 0 = .ok (.aload_n 3, 1) := by decide +kernel
theorem dL_shim_1 : decode cL_shim 1 = .ok (.iconst 0, 1) := by decide +kernel
theorem dL_shim_2 : decode cL_shim 2 = .ok (.aload_n 0, 1) := by decide +kernel
theorem dL_shim_3 : decode cL_shim 3 = .ok (.iload_n 1, 1) := by decide +kernel
theorem dL_shim_4 : decode cL_shim 4 = .ok (.iload_n 2, 1) := by decide +kernel
theorem dL_shim_5 : decode cL_shim 5 = .ok (.invokevirtual 56, 3) := by decide +kernel
theorem dL_shim_8 : decode cL_shim 8 = .ok (.i2l, 1) := by decide +kernel
theorem dL_shim_9 : decode cL_shim 9 = .ok (.lastore, 1) := by decide +kernel
theorem dL_shim_10 : decode cL_shim 10 = .ok (.goto 11, 3) := by decide +kernel
theorem dL_shim_13 : decode cL_shim 13 = .ok (.astore 4, 2) := by decide +kernel
theorem dL_shim_15 : decode cL_shim 15 = .ok (.iconst 1, 1) := by decide +kernel
theorem dL_shim_16 : decode cL_shim 16 = .ok (.ireturn, 1) := by decide +kernel
theorem dL_shim_17 : decode cL_shim 17 = .ok (.astore 4, 2) := by decide +kernel
theorem dL_shim_19 : decode cL_shim 19 = .ok (.iconst 2, 1) := by decide +kernel
theorem dL_shim_20 : decode cL_shim 20 = .ok (.ireturn, 1) := by decide +kernel
theorem dL_shim_21 : decode cL_shim 21 = .ok (.iconst 0, 1) := by decide +kernel
theorem dL_shim_22 : decode cL_shim 22 = .ok (.ireturn, 1) := by decide +kernel
set_option maxRecDepth 20000 in
theorem ggL_versionOn_X5_versionOn : GoodIn wsL_versionOn wsX5_versionOn := goodIn_ca (goodIn_ca (goodIn_r _ [7, 8, 9, 10, 11, 12, 6, 13, 14, 15, 16, 17, 18, 19, 20, 21, 22, 23, 24, 25, 26, 27, 28, 29, 30, 31, 32, 33, 34, 35, 36, 37, 38, 39, 40, 41, 42, 43, 44, 45, 46, 47, 48, 49, 50, 51, 52, 53, 54, 55, 56, 57, 58, 59, 60] (by decide +kernel) (by decide +kernel)) (goodIn_sub (fun _ h => List.mem_cons_of_mem _ (List.mem_append_left _ (List.mem_append_right _ h))) (by decide +kernel))) (goodIn_sub (fun _ h => List.mem_cons_of_mem _ (List.mem_append_right _ h)) (by decide +kernel))
set_option maxRecDepth 20000 in
theorem gL_versionOn_X5_versionOn : GoodIn wsL_versionOn (wsV RL 59 RX5 yX5_versionOn wsX5_versionOn) := goodIn_app (goodIn_of _ (by decide +kernel)) ggL_versionOn_X5_versionOn
theorem dL_versionOn_0 : decode cL_versionOn 0 = .ok (.aload_n 3, 1) := by decide +kernel
theorem dL_versionOn_1 : decode cL_versionOn 1 = .ok (.iconst 0, 1) := by decide +kernel
theorem dL_versionOn_2 : decode cL_versionOn 2 = .ok (.aload_n 0, 1) := by decide +kernel
theorem dL_versionOn_3 : decode cL_versionOn 3 = .ok (.iload_n 1, 1) := by decide +kernel
theorem dL_versionOn_4 : decode cL_versionOn 4 = .ok (.iload_n 2, 1) := by decide +kernel
theorem dL_versionOn_5 : decode cL_versionOn 5 = .ok (.invokevirtual 59, 3) := by decide +kernel
theorem dL_versionOn_8 : decode cL_versionOn 8 = .ok (.i2l, 1) := by decide +kernel
theorem dL_versionOn_9 : decode cL_versionOn 9 = .ok (.lastore, 1) := by decide +kernel
theorem dL_versionOn_10 : decode cL_versionOn 10 = .ok (.goto 11, 3) := by decide +kernel
theorem dL_versionOn_13 : decode cL_versionOn 13 = .ok (.astore 4, 2) := by decide +kernel
theorem dL_versionOn_15 : decode cL_versionOn 15 = .ok (.iconst 1, 1) := by decide +kernel
theorem dL_versionOn_16 : decode cL_versionOn 16 = .ok (.ireturn, 1) := by decide +kernel
theorem dL_versionOn_17 : decode cL_versionOn 17 = .ok (.astore 4, 2) := by decide +kernel
theorem dL_versionOn_19 : decode cL_versionOn 19 = .ok (.iconst 2, 1) := by decide +kernel
theorem dL_versionOn_20 : decode cL_versionOn 20 = .ok (.ireturn, 1) := by decide +kernel
theorem dL_versionOn_21 : decode cL_versionOn 21 = .ok (.iconst 0, 1) := by decide +kernel
theorem dL_versionOn_22 : decode cL_versionOn 22 = .ok (.ireturn, 1) := by decide +kernel
set_option maxRecDepth 20000 in
theorem ggL_served_X5_served : GoodIn wsL_served wsX5_served := goodIn_ca (goodIn_ca (goodIn_r _ [7, 8, 9, 10, 11, 12, 13, 6, 14, 15, 16, 17, 18, 19, 20, 21, 22, 23, 24, 25, 26, 27, 28, 29, 30, 31, 32, 33, 34, 35, 36, 37, 38, 39, 40, 41, 42, 43, 44, 45, 46, 47, 48, 49, 50, 51, 52, 53, 54, 55, 56, 57, 58, 59, 60, 61, 62, 63, 64, 65, 66, 67, 68, 69, 70, 71, 72, 73, 74, 75, 76, 77, 78, 79, 80, 81, 82, 83, 84, 85, 86, 87, 88, 89, 90, 91, 92, 93, 94, 95, 96] (by decide +kernel) (by decide +kernel)) (goodIn_sub (fun _ h => List.mem_cons_of_mem _ (List.mem_append_left _ (List.mem_append_right _ h))) (by decide +kernel))) (goodIn_sub (fun _ h => List.mem_cons_of_mem _ (List.mem_append_right _ h)) (by decide +kernel))
set_option maxRecDepth 20000 in
theorem gL_served_X5_served : GoodIn wsL_served (wsV RL 62 RX5 yX5_served wsX5_served) := goodIn_app (goodIn_of _ (by decide +kernel)) ggL_served_X5_served
theorem dL_served_0 : decode cL_served 0 = .ok (.aload 4, 2) := by decide +kernel
theorem dL_served_2 : decode cL_served 2 = .ok (.iconst 0, 1) := by decide +kernel
theorem dL_served_3 : decode cL_served 3 = .ok (.aload_n 0, 1) := by decide +kernel
theorem dL_served_4 : decode cL_served 4 = .ok (.iload_n 1, 1) := by decide +kernel
theorem dL_served_5 : decode cL_served 5 = .ok (.iload_n 2, 1) := by decide +kernel
theorem dL_served_6 : decode cL_served 6 = .ok (.iload_n 3, 1) := by decide +kernel
theorem dL_served_7 : decode cL_served 7 = .ok (.invokevirtual 62, 3) := by decide +kernel
theorem dL_served_10 : decode cL_served 10 = .ok (.i2l, 1) := by decide +kernel
theorem dL_served_11 : decode cL_served 11 = .ok (.lastore, 1) := by decide +kernel
theorem dL_served_12 : decode cL_served 12 = .ok (.goto 11, 3) := by decide +kernel
theorem dL_served_15 : decode cL_served 15 = .ok (.astore 5, 2) := by decide +kernel
theorem dL_served_17 : decode cL_served 17 = .ok (.iconst 1, 1) := by decide +kernel
theorem dL_served_18 : decode cL_served 18 = .ok (.ireturn, 1) := by decide +kernel
theorem dL_served_19 : decode cL_served 19 = .ok (.astore 5, 2) := by decide +kernel
theorem dL_served_21 : decode cL_served 21 = .ok (.iconst 2, 1) := by decide +kernel
theorem dL_served_22 : decode cL_served 22 = .ok (.ireturn, 1) := by decide +kernel
theorem dL_served_23 : decode cL_served 23 = .ok (.iconst 0, 1) := by decide +kernel
theorem dL_served_24 : decode cL_served 24 = .ok (.ireturn, 1) := by decide +kernel
set_option maxRecDepth 20000 in
theorem ggL_missing_X5_missing : GoodIn wsL_missing wsX5_missing := goodIn_ca (goodIn_ca (goodIn_r _ [7, 8, 9, 10, 11, 6, 12, 13, 14, 15, 16, 17, 18, 19, 20, 21, 22, 23, 24, 25, 26, 27, 28, 29, 30, 31, 32, 33, 34, 35, 36, 37, 38, 39, 40, 41, 42, 43, 44, 45, 46, 47, 48, 49, 50, 51, 52, 53, 54, 55, 56, 57, 58, 59, 60, 61, 62, 63, 64, 65, 66, 67, 68, 69, 70, 71, 72, 73, 74, 75, 76, 77, 78, 79, 80, 81, 82, 83, 84, 85, 86, 87, 88, 89, 90, 91, 92, 93, 94, 95, 96, 97, 98, 99, 100, 101, 102, 103, 104, 105, 106] (by decide +kernel) (by decide +kernel)) (goodIn_sub (fun _ h => List.mem_cons_of_mem _ (List.mem_append_left _ (List.mem_append_right _ h))) (by decide +kernel))) (goodIn_sub (fun _ h => List.mem_cons_of_mem _ (List.mem_append_right _ h)) (by decide +kernel))
set_option maxRecDepth 20000 in
theorem gL_missing_X5_missing : GoodIn wsL_missing (wsV RL 65 RX5 yX5_missing wsX5_missing) := goodIn_app (goodIn_of _ (by decide +kernel)) ggL_missing_X5_missing
theorem dL_missing_0 : decode cL_missing 0 = .ok (.aload_n 3, 1) := by decide +kernel
theorem dL_missing_1 : decode cL_missing 1 = .ok (.iconst 0, 1) := by decide +kernel
theorem dL_missing_2 : decode cL_missing 2 = .ok (.aload_n 0, 1) := by decide +kernel
theorem dL_missing_3 : decode cL_missing 3 = .ok (.iload_n 1, 1) := by decide +kernel
theorem dL_missing_4 : decode cL_missing 4 = .ok (.iload_n 2, 1) := by decide +kernel
theorem dL_missing_5 : decode cL_missing 5 = .ok (.invokevirtual 65, 3) := by decide +kernel
theorem dL_missing_8 : decode cL_missing 8 = .ok (.i2l, 1) := by decide +kernel
theorem dL_missing_9 : decode cL_missing 9 = .ok (.lastore, 1) := by decide +kernel
theorem dL_missing_10 : decode cL_missing 10 = .ok (.goto 11, 3) := by decide +kernel
theorem dL_missing_13 : decode cL_missing 13 = .ok (.astore 4, 2) := by decide +kernel
theorem dL_missing_15 : decode cL_missing 15 = .ok (.iconst 1, 1) := by decide +kernel
theorem dL_missing_16 : decode cL_missing 16 = .ok (.ireturn, 1) := by decide +kernel
theorem dL_missing_17 : decode cL_missing 17 = .ok (.astore 4, 2) := by decide +kernel
theorem dL_missing_19 : decode cL_missing 19 = .ok (.iconst 2, 1) := by decide +kernel
theorem dL_missing_20 : decode cL_missing 20 = .ok (.ireturn, 1) := by decide +kernel
theorem dL_missing_21 : decode cL_missing 21 = .ok (.iconst 0, 1) := by decide +kernel
theorem dL_missing_22 : decode cL_missing 22 = .ok (.ireturn, 1) := by decide +kernel
set_option maxRecDepth 20000 in
theorem ggL_stranded_X5_stranded : GoodIn wsL_stranded wsX5_stranded := goodIn_ca (goodIn_r _ [6, 7, 8, 9, 5, 10, 11, 12, 13, 14, 15, 16, 17, 18, 19, 20, 21, 22, 23, 24, 25, 26, 27, 28, 29, 30, 31, 32, 33, 34, 35, 36, 37, 38, 39, 40, 41, 42, 43, 44, 45, 46, 47, 48, 49, 50, 51, 52, 53, 54, 55, 56, 57, 58, 59, 60, 61, 62, 63, 64, 65, 66, 67, 68, 69, 70, 71, 72, 73, 74, 75, 76, 77, 78, 79, 80, 81, 82, 83, 84, 85, 86, 87, 88, 89, 90, 91, 92, 93, 94, 95, 96] (by decide +kernel) (by decide +kernel)) (goodIn_sub (fun _ h => List.mem_cons_of_mem _ (List.mem_append_right _ h)) (by decide +kernel))
set_option maxRecDepth 20000 in
theorem gL_stranded_X5_stranded : GoodIn wsL_stranded (wsV RL 68 RX5 yX5_stranded wsX5_stranded) := goodIn_app (goodIn_of _ (by decide +kernel)) ggL_stranded_X5_stranded
theorem dL_stranded_0 : decode cL_stranded 0 = .ok (.aload_n 2, 1) := by decide +kernel
theorem dL_stranded_1 : decode cL_stranded 1 = .ok (.iconst 0, 1) := by decide +kernel
theorem dL_stranded_2 : decode cL_stranded 2 = .ok (.aload_n 0, 1) := by decide +kernel
theorem dL_stranded_3 : decode cL_stranded 3 = .ok (.iload_n 1, 1) := by decide +kernel
theorem dL_stranded_4 : decode cL_stranded 4 = .ok (.invokevirtual 68, 3) := by decide +kernel
theorem dL_stranded_7 : decode cL_stranded 7 = .ok (.i2l, 1) := by decide +kernel
theorem dL_stranded_8 : decode cL_stranded 8 = .ok (.lastore, 1) := by decide +kernel
theorem dL_stranded_9 : decode cL_stranded 9 = .ok (.goto 6, 3) := by decide +kernel
theorem dL_stranded_12 : decode cL_stranded 12 = .ok (.astore_n 3, 1) := by decide +kernel
theorem dL_stranded_13 : decode cL_stranded 13 = .ok (.iconst 1, 1) := by decide +kernel
theorem dL_stranded_14 : decode cL_stranded 14 = .ok (.ireturn, 1) := by decide +kernel
theorem dL_stranded_15 : decode cL_stranded 15 = .ok (.iconst 0, 1) := by decide +kernel
theorem dL_stranded_16 : decode cL_stranded 16 = .ok (.ireturn, 1) := by decide +kernel
set_option maxRecDepth 20000 in
theorem ggL_costs_X5_costs : GoodIn wsL_costs wsX5_costs := goodIn_ca (goodIn_r _ [6, 7, 8, 9, 5, 10, 11, 12, 13, 14, 15, 16, 17, 18, 19, 20, 21, 22, 23, 24, 25, 26, 27, 28, 29, 30, 31, 32, 33, 34, 35, 36, 37, 38, 39, 40, 41, 42, 43, 44, 45, 46, 47, 48, 49, 50, 51, 52, 53, 54, 55, 56, 57, 58, 59, 60, 61, 62, 63, 64, 65, 66, 67, 68, 69, 70, 71, 72, 73, 74, 75, 76, 77, 78, 79, 80, 81, 82, 83, 84, 85, 86, 87, 88, 89, 90, 91, 92, 93, 94, 95, 96, 97, 98, 99, 100, 101, 102, 103, 104, 105, 106, 107, 108, 109, 110, 111, 112, 113, 114, 115, 116, 117, 118, 119, 120, 121, 122, 123, 124] (by decide +kernel) (by decide +kernel)) (goodIn_sub (fun _ h => List.mem_cons_of_mem _ (List.mem_append_right _ h)) (by decide +kernel))
set_option maxRecDepth 20000 in
theorem gL_costs_X5_costs : GoodIn wsL_costs (wsV RL 71 RX5 yX5_costs wsX5_costs) := goodIn_app (goodIn_of _ (by decide +kernel)) ggL_costs_X5_costs
theorem dL_costs_0 : decode cL_costs 0 = .ok (.aload_n 3, 1) := by decide +kernel
theorem dL_costs_1 : decode cL_costs 1 = .ok (.iconst 0, 1) := by decide +kernel
theorem dL_costs_2 : decode cL_costs 2 = .ok (.aload_n 0, 1) := by decide +kernel
theorem dL_costs_3 : decode cL_costs 3 = .ok (.iload_n 1, 1) := by decide +kernel
theorem dL_costs_4 : decode cL_costs 4 = .ok (.iload_n 2, 1) := by decide +kernel
theorem dL_costs_5 : decode cL_costs 5 = .ok (.invokevirtual 71, 3) := by decide +kernel
theorem dL_costs_8 : decode cL_costs 8 = .ok (.i2l, 1) := by decide +kernel
theorem dL_costs_9 : decode cL_costs 9 = .ok (.lastore, 1) := by decide +kernel
theorem dL_costs_10 : decode cL_costs 10 = .ok (.goto 7, 3) := by decide +kernel
theorem dL_costs_13 : decode cL_costs 13 = .ok (.astore 4, 2) := by decide +kernel
theorem dL_costs_15 : decode cL_costs 15 = .ok (.iconst 1, 1) := by decide +kernel
theorem dL_costs_16 : decode cL_costs 16 = .ok (.ireturn, 1) := by decide +kernel
theorem dL_costs_17 : decode cL_costs 17 = .ok (.iconst 0, 1) := by decide +kernel
theorem dL_costs_18 : decode cL_costs 18 = .ok (.ireturn, 1) := by decide +kernel
set_option maxRecDepth 20000 in
theorem ggL_value_X5_value : GoodIn wsL_value wsX5_value := goodIn_ca (goodIn_r _ [6, 7, 8, 9, 5, 10, 11, 12, 13, 14, 15, 16, 17, 18, 19, 20, 21, 22, 23, 24, 25, 26, 27, 28, 29, 30, 31, 32, 33, 34, 35, 36, 37, 38, 39, 40, 41, 42, 43, 44, 45, 46, 47, 48, 49, 50, 51, 52, 53, 54, 55, 56, 57, 58, 59, 60, 61, 62, 63, 64, 65, 66, 67, 68, 69, 70, 71, 72, 73, 74, 75, 76, 77, 78, 79, 80, 81, 82, 83, 84, 85, 86, 87, 88, 89, 90, 91, 92, 93, 94, 95, 96, 97, 98, 99, 100, 101, 102, 103, 104, 105, 106, 107, 108, 109, 110, 111, 112, 113, 114, 115, 116, 117, 118, 119, 120, 121, 122, 123, 124, 125, 126, 127, 128, 129, 130, 131, 132, 133, 134, 135, 136, 137, 138, 139, 140, 141, 142] (by decide +kernel) (by decide +kernel)) (goodIn_sub (fun _ h => List.mem_cons_of_mem _ (List.mem_append_right _ h)) (by decide +kernel))
set_option maxRecDepth 20000 in
theorem gL_value_X5_value : GoodIn wsL_value (wsV RL 74 RX5 yX5_value wsX5_value) := goodIn_app (goodIn_of _ (by decide +kernel)) ggL_value_X5_value
theorem dL_value_0 : decode cL_value 0 = .ok (.aload_n 2, 1) := by decide +kernel
theorem dL_value_1 : decode cL_value 1 = .ok (.iconst 0, 1) := by decide +kernel
theorem dL_value_2 : decode cL_value 2 = .ok (.aload_n 0, 1) := by decide +kernel
theorem dL_value_3 : decode cL_value 3 = .ok (.iload_n 1, 1) := by decide +kernel
theorem dL_value_4 : decode cL_value 4 = .ok (.invokevirtual 74, 3) := by decide +kernel
theorem dL_value_7 : decode cL_value 7 = .ok (.i2l, 1) := by decide +kernel
theorem dL_value_8 : decode cL_value 8 = .ok (.lastore, 1) := by decide +kernel
theorem dL_value_9 : decode cL_value 9 = .ok (.goto 6, 3) := by decide +kernel
theorem dL_value_12 : decode cL_value 12 = .ok (.astore_n 3, 1) := by decide +kernel
theorem dL_value_13 : decode cL_value 13 = .ok (.iconst 1, 1) := by decide +kernel
theorem dL_value_14 : decode cL_value 14 = .ok (.ireturn, 1) := by decide +kernel
theorem dL_value_15 : decode cL_value 15 = .ok (.iconst 0, 1) := by decide +kernel
theorem dL_value_16 : decode cL_value 16 = .ok (.ireturn, 1) := by decide +kernel
set_option maxRecDepth 20000 in
theorem ggL_firstStranded_X5_firstStranded : GoodIn wsL_firstStranded wsX5_firstStranded := goodIn_ca (goodIn_ca (goodIn_r _ [7, 8, 9, 10, 11, 6, 12, 13, 14, 15, 16, 17, 18, 19, 20, 21, 22, 23, 24, 25, 26, 27, 28, 29, 30, 31, 32, 33, 34, 35, 36, 37, 38, 39, 40, 41, 42, 43, 44, 45, 46, 47, 48, 49, 50, 51, 52, 53, 54, 55, 56, 57, 58, 59, 60, 61, 62, 63, 64, 65, 66, 67, 68, 69, 70, 71, 72, 73, 74, 75, 76, 77, 78, 79, 80, 81, 82, 83, 84, 85, 86, 87, 88, 89, 90, 91, 92, 93, 94, 95, 96, 97, 98, 99, 100, 101, 102, 103, 104, 105, 106, 107, 108, 109, 110, 111, 112, 113, 114, 115, 116, 117, 118, 119, 120, 121, 122, 123, 124, 125, 126, 127, 128, 129] (by decide +kernel) (by decide +kernel)) (goodIn_sub (fun _ h => List.mem_cons_of_mem _ (List.mem_append_left _ (List.mem_append_right _ h))) (by decide +kernel))) (goodIn_sub (fun _ h => List.mem_cons_of_mem _ (List.mem_append_right _ h)) (by decide +kernel))
set_option maxRecDepth 20000 in
theorem gL_firstStranded_X5_firstStranded : GoodIn wsL_firstStranded (wsV RL 77 RX5 yX5_firstStranded wsX5_firstStranded) := goodIn_app (goodIn_of _ (by decide +kernel)) ggL_firstStranded_X5_firstStranded
theorem dL_firstStranded_0 : decode cL_firstStranded 0 = .ok (.aload_n 3, 1) := by decide +kernel
theorem dL_firstStranded_1 : decode cL_firstStranded 1 = .ok (.iconst 0, 1) := by decide +kernel
theorem dL_firstStranded_2 : decode cL_firstStranded 2 = .ok (.aload_n 0, 1) := by decide +kernel
theorem dL_firstStranded_3 : decode cL_firstStranded 3 = .ok (.iload_n 1, 1) := by decide +kernel
theorem dL_firstStranded_4 : decode cL_firstStranded 4 = .ok (.iload_n 2, 1) := by decide +kernel
theorem dL_firstStranded_5 : decode cL_firstStranded 5 = .ok (.invokevirtual 77, 3) := by decide +kernel
theorem dL_firstStranded_8 : decode cL_firstStranded 8 = .ok (.i2l, 1) := by decide +kernel
theorem dL_firstStranded_9 : decode cL_firstStranded 9 = .ok (.lastore, 1) := by decide +kernel
theorem dL_firstStranded_10 : decode cL_firstStranded 10 = .ok (.goto 11, 3) := by decide +kernel
theorem dL_firstStranded_13 : decode cL_firstStranded 13 = .ok (.astore 4, 2) := by decide +kernel
theorem dL_firstStranded_15 : decode cL_firstStranded 15 = .ok (.iconst 1, 1) := by decide +kernel
theorem dL_firstStranded_16 : decode cL_firstStranded 16 = .ok (.ireturn, 1) := by decide +kernel
theorem dL_firstStranded_17 : decode cL_firstStranded 17 = .ok (.astore 4, 2) := by decide +kernel
theorem dL_firstStranded_19 : decode cL_firstStranded 19 = .ok (.iconst 2, 1) := by decide +kernel
theorem dL_firstStranded_20 : decode cL_firstStranded 20 = .ok (.ireturn, 1) := by decide +kernel
theorem dL_firstStranded_21 : decode cL_firstStranded 21 = .ok (.iconst 0, 1) := by decide +kernel
theorem dL_firstStranded_22 : decode cL_firstStranded 22 = .ok (.ireturn, 1) := by decide +kernel
set_option maxRecDepth 20000 in
theorem ggL_latestMove_X5_latestMove : GoodIn wsL_latestMove wsX5_latestMove := goodIn_ca (goodIn_ca (goodIn_r _ [7, 8, 9, 10, 11, 12, 13, 14, 6, 15, 16, 17, 18, 19, 20, 21, 22, 23, 24, 25, 26, 27, 28, 29, 30, 31, 32, 33, 34, 35, 36, 37, 38, 39, 40, 41, 42, 43, 44, 45, 46, 47, 48, 49, 50, 51, 52, 53, 54, 55, 56, 57, 58, 59, 60, 61, 62, 63, 64, 65, 66, 67, 68, 69, 70, 71, 72, 73, 74, 75, 76, 77, 78, 79, 80, 81, 82, 83, 84, 85, 86, 87, 88, 89, 90, 91, 92, 93, 94, 95, 96, 97, 98, 99, 100, 101, 102, 103, 104, 105, 106, 107, 108, 109, 110, 111, 112, 113, 114, 115, 116, 117, 118, 119, 120] (by decide +kernel) (by decide +kernel)) (goodIn_sub (fun _ h => List.mem_cons_of_mem _ (List.mem_append_left _ (List.mem_append_right _ h))) (by decide +kernel))) (goodIn_sub (fun _ h => List.mem_cons_of_mem _ (List.mem_append_right _ h)) (by decide +kernel))
set_option maxRecDepth 20000 in
theorem gL_latestMove_X5_latestMove : GoodIn wsL_latestMove (wsV RL 80 RX5 yX5_latestMove wsX5_latestMove) := goodIn_app (goodIn_of _ (by decide +kernel)) ggL_latestMove_X5_latestMove
theorem dL_latestMove_0 : decode cL_latestMove 0 = .ok (.aload 4, 2) := by decide +kernel
theorem dL_latestMove_2 : decode cL_latestMove 2 = .ok (.iconst 0, 1) := by decide +kernel
theorem dL_latestMove_3 : decode cL_latestMove 3 = .ok (.aload_n 0, 1) := by decide +kernel
theorem dL_latestMove_4 : decode cL_latestMove 4 = .ok (.iload_n 1, 1) := by decide +kernel
theorem dL_latestMove_5 : decode cL_latestMove 5 = .ok (.iload_n 2, 1) := by decide +kernel
theorem dL_latestMove_6 : decode cL_latestMove 6 = .ok (.iload_n 3, 1) := by decide +kernel
theorem dL_latestMove_7 : decode cL_latestMove 7 = .ok (.invokevirtual 80, 3) := by decide +kernel
theorem dL_latestMove_10 : decode cL_latestMove 10 = .ok (.i2l, 1) := by decide +kernel
theorem dL_latestMove_11 : decode cL_latestMove 11 = .ok (.lastore, 1) := by decide +kernel
theorem dL_latestMove_12 : decode cL_latestMove 12 = .ok (.goto 11, 3) := by decide +kernel
theorem dL_latestMove_15 : decode cL_latestMove 15 = .ok (.astore 5, 2) := by decide +kernel
theorem dL_latestMove_17 : decode cL_latestMove 17 = .ok (.iconst 1, 1) := by decide +kernel
theorem dL_latestMove_18 : decode cL_latestMove 18 = .ok (.ireturn, 1) := by decide +kernel
theorem dL_latestMove_19 : decode cL_latestMove 19 = .ok (.astore 5, 2) := by decide +kernel
theorem dL_latestMove_21 : decode cL_latestMove 21 = .ok (.iconst 2, 1) := by decide +kernel
theorem dL_latestMove_22 : decode cL_latestMove 22 = .ok (.ireturn, 1) := by decide +kernel
theorem dL_latestMove_23 : decode cL_latestMove 23 = .ok (.iconst 0, 1) := by decide +kernel
theorem dL_latestMove_24 : decode cL_latestMove 24 = .ok (.ireturn, 1) := by decide +kernel
set_option maxRecDepth 20000 in
theorem ggL_bestVersion_X5_bestVersion : GoodIn wsL_bestVersion wsX5_bestVersion := goodIn_ca (goodIn_ca (goodIn_r _ [7, 8, 9, 10, 11, 12, 13, 6, 14, 15, 16, 17, 18, 19, 20, 21, 22, 23, 24, 25, 26, 27, 28, 29, 30, 31, 32, 33, 34, 35, 36, 37, 38, 39, 40, 41, 42, 43, 44, 45, 46, 47, 48, 49, 50, 51, 52, 53, 54, 55, 56, 57, 58, 59, 60, 61, 62, 63, 64, 65, 66, 67, 68, 69, 70, 71, 72, 73, 74, 75, 76, 77, 78, 79, 80, 81, 82, 83, 84, 85, 86, 87, 88, 89, 90, 91, 92, 93, 94, 95, 96, 97, 98, 99, 100, 101] (by decide +kernel) (by decide +kernel)) (goodIn_sub (fun _ h => List.mem_cons_of_mem _ (List.mem_append_left _ (List.mem_append_right _ h))) (by decide +kernel))) (goodIn_sub (fun _ h => List.mem_cons_of_mem _ (List.mem_append_right _ h)) (by decide +kernel))
set_option maxRecDepth 20000 in
theorem gL_bestVersion_X5_bestVersion : GoodIn wsL_bestVersion (wsV RL 83 RX5 yX5_bestVersion wsX5_bestVersion) := goodIn_app (goodIn_of _ (by decide +kernel)) ggL_bestVersion_X5_bestVersion
theorem dL_bestVersion_0 : decode cL_bestVersion 0 = .ok (.aload_n 3, 1) := by decide +kernel
theorem dL_bestVersion_1 : decode cL_bestVersion 1 = .ok (.iconst 0, 1) := by decide +kernel
theorem dL_bestVersion_2 : decode cL_bestVersion 2 = .ok (.aload_n 0, 1) := by decide +kernel
theorem dL_bestVersion_3 : decode cL_bestVersion 3 = .ok (.iload_n 1, 1) := by decide +kernel
theorem dL_bestVersion_4 : decode cL_bestVersion 4 = .ok (.iload_n 2, 1) := by decide +kernel
theorem dL_bestVersion_5 : decode cL_bestVersion 5 = .ok (.invokevirtual 83, 3) := by decide +kernel
theorem dL_bestVersion_8 : decode cL_bestVersion 8 = .ok (.i2l, 1) := by decide +kernel
theorem dL_bestVersion_9 : decode cL_bestVersion 9 = .ok (.lastore, 1) := by decide +kernel
theorem dL_bestVersion_10 : decode cL_bestVersion 10 = .ok (.goto 11, 3) := by decide +kernel
theorem dL_bestVersion_13 : decode cL_bestVersion 13 = .ok (.astore 4, 2) := by decide +kernel
theorem dL_bestVersion_15 : decode cL_bestVersion 15 = .ok (.iconst 1, 1) := by decide +kernel
theorem dL_bestVersion_16 : decode cL_bestVersion 16 = .ok (.ireturn, 1) := by decide +kernel
theorem dL_bestVersion_17 : decode cL_bestVersion 17 = .ok (.astore 4, 2) := by decide +kernel
theorem dL_bestVersion_19 : decode cL_bestVersion 19 = .ok (.iconst 2, 1) := by decide +kernel
theorem dL_bestVersion_20 : decode cL_bestVersion 20 = .ok (.ireturn, 1) := by decide +kernel
theorem dL_bestVersion_21 : decode cL_bestVersion 21 = .ok (.iconst 0, 1) := by decide +kernel
theorem dL_bestVersion_22 : decode cL_bestVersion 22 = .ok (.ireturn, 1) := by decide +kernel
set_option maxRecDepth 20000 in
theorem ggL_cheapest_X5_cheapest : GoodIn wsL_cheapest wsX5_cheapest := goodIn_ca (goodIn_ca (goodIn_r _ [7, 8, 9, 10, 11, 12, 13, 6, 14, 15, 16, 17, 18, 19, 20, 21, 22, 23, 24, 25, 26, 27, 28, 29, 30, 31, 32, 33, 34, 35, 36, 37, 38, 39, 40, 41, 42, 43, 44, 45, 46, 47, 48, 49, 50, 51, 52, 53, 54, 55, 56, 57, 58, 59, 60, 61, 62, 63, 64, 65, 66, 67, 68, 69, 70, 71, 72, 73, 74, 75, 76, 77, 78, 79, 80, 81, 82, 83, 84, 85, 86, 87, 88, 89, 90, 91, 92, 93, 94, 95, 96, 97, 98, 99, 100, 101, 102, 103, 104, 105, 106, 107, 108, 109, 110, 111, 112, 113, 114, 115, 116, 117, 118, 119, 120, 121, 122, 123, 124, 125, 126, 127, 128, 129, 130, 131, 132, 133, 134, 135] (by decide +kernel) (by decide +kernel)) (goodIn_sub (fun _ h => List.mem_cons_of_mem _ (List.mem_append_left _ (List.mem_append_right _ h))) (by decide +kernel))) (goodIn_sub (fun _ h => List.mem_cons_of_mem _ (List.mem_append_right _ h)) (by decide +kernel))
set_option maxRecDepth 20000 in
theorem gL_cheapest_X5_cheapest : GoodIn wsL_cheapest (wsV RL 86 RX5 yX5_cheapest wsX5_cheapest) := goodIn_app (goodIn_of _ (by decide +kernel)) ggL_cheapest_X5_cheapest
theorem dL_cheapest_0 : decode cL_cheapest 0 = .ok (.aload 4, 2) := by decide +kernel
theorem dL_cheapest_2 : decode cL_cheapest 2 = .ok (.iconst 0, 1) := by decide +kernel
theorem dL_cheapest_3 : decode cL_cheapest 3 = .ok (.aload_n 0, 1) := by decide +kernel
theorem dL_cheapest_4 : decode cL_cheapest 4 = .ok (.iload_n 1, 1) := by decide +kernel
theorem dL_cheapest_5 : decode cL_cheapest 5 = .ok (.iload_n 2, 1) := by decide +kernel
theorem dL_cheapest_6 : decode cL_cheapest 6 = .ok (.iload_n 3, 1) := by decide +kernel
theorem dL_cheapest_7 : decode cL_cheapest 7 = .ok (.invokevirtual 86, 3) := by decide +kernel
theorem dL_cheapest_10 : decode cL_cheapest 10 = .ok (.i2l, 1) := by decide +kernel
theorem dL_cheapest_11 : decode cL_cheapest 11 = .ok (.lastore, 1) := by decide +kernel
theorem dL_cheapest_12 : decode cL_cheapest 12 = .ok (.goto 11, 3) := by decide +kernel
theorem dL_cheapest_15 : decode cL_cheapest 15 = .ok (.astore 5, 2) := by decide +kernel
theorem dL_cheapest_17 : decode cL_cheapest 17 = .ok (.iconst 1, 1) := by decide +kernel
theorem dL_cheapest_18 : decode cL_cheapest 18 = .ok (.ireturn, 1) := by decide +kernel
theorem dL_cheapest_19 : decode cL_cheapest 19 = .ok (.astore 5, 2) := by decide +kernel
theorem dL_cheapest_21 : decode cL_cheapest 21 = .ok (.iconst 2, 1) := by decide +kernel
theorem dL_cheapest_22 : decode cL_cheapest 22 = .ok (.ireturn, 1) := by decide +kernel
theorem dL_cheapest_23 : decode cL_cheapest 23 = .ok (.iconst 0, 1) := by decide +kernel
theorem dL_cheapest_24 : decode cL_cheapest 24 = .ok (.ireturn, 1) := by decide +kernel
set_option maxRecDepth 20000 in
theorem ggL_shimsNeeded_X5_shimsNeeded : GoodIn wsL_shimsNeeded wsX5_shimsNeeded := goodIn_ca (goodIn_r _ [6, 7, 8, 9, 5, 10, 11, 12, 13, 14, 15, 16, 17, 18, 19, 20, 21, 22, 23, 24, 25, 26, 27, 28, 29, 30, 31, 32, 33, 34, 35, 36, 37, 38, 39, 40, 41, 42, 43, 44, 45, 46, 47, 48, 49, 50, 51, 52, 53, 54, 55, 56, 57, 58, 59, 60, 61, 62, 63, 64, 65, 66, 67, 68, 69, 70, 71, 72, 73, 74, 75, 76, 77, 78, 79, 80, 81, 82, 83, 84, 85, 86, 87, 88, 89, 90, 91, 92, 93, 94, 95, 96, 97, 98, 99, 100, 101, 102, 103, 104, 105, 106, 107, 108] (by decide +kernel) (by decide +kernel)) (goodIn_sub (fun _ h => List.mem_cons_of_mem _ (List.mem_append_right _ h)) (by decide +kernel))
set_option maxRecDepth 20000 in
theorem gL_shimsNeeded_X5_shimsNeeded : GoodIn wsL_shimsNeeded (wsV RL 89 RX5 yX5_shimsNeeded wsX5_shimsNeeded) := goodIn_app (goodIn_of _ (by decide +kernel)) ggL_shimsNeeded_X5_shimsNeeded
theorem dL_shimsNeeded_0 : decode cL_shimsNeeded 0 = .ok (.aload_n 2, 1) := by decide +kernel
theorem dL_shimsNeeded_1 : decode cL_shimsNeeded 1 = .ok (.iconst 0, 1) := by decide +kernel
theorem dL_shimsNeeded_2 : decode cL_shimsNeeded 2 = .ok (.aload_n 0, 1) := by decide +kernel
theorem dL_shimsNeeded_3 : decode cL_shimsNeeded 3 = .ok (.iload_n 1, 1) := by decide +kernel
theorem dL_shimsNeeded_4 : decode cL_shimsNeeded 4 = .ok (.invokevirtual 89, 3) := by decide +kernel
theorem dL_shimsNeeded_7 : decode cL_shimsNeeded 7 = .ok (.i2l, 1) := by decide +kernel
theorem dL_shimsNeeded_8 : decode cL_shimsNeeded 8 = .ok (.lastore, 1) := by decide +kernel
theorem dL_shimsNeeded_9 : decode cL_shimsNeeded 9 = .ok (.goto 6, 3) := by decide +kernel
theorem dL_shimsNeeded_12 : decode cL_shimsNeeded 12 = .ok (.astore_n 3, 1) := by decide +kernel
theorem dL_shimsNeeded_13 : decode cL_shimsNeeded 13 = .ok (.iconst 1, 1) := by decide +kernel
theorem dL_shimsNeeded_14 : decode cL_shimsNeeded 14 = .ok (.ireturn, 1) := by decide +kernel
theorem dL_shimsNeeded_15 : decode cL_shimsNeeded 15 = .ok (.iconst 0, 1) := by decide +kernel
theorem dL_shimsNeeded_16 : decode cL_shimsNeeded 16 = .ok (.ireturn, 1) := by decide +kernel
set_option maxRecDepth 20000 in
theorem ggL_share_X5_share : GoodIn wsL_share wsX5_share := goodIn_ca (goodIn_r _ [6, 7, 8, 9, 10, 5, 11, 12, 13, 14, 15, 16, 17, 18, 19, 20, 21, 22, 23, 24, 25, 26, 27, 28, 29, 30, 31, 32, 33, 34, 35, 36, 37, 38, 39, 40, 41, 42, 43, 44, 45, 46, 47, 48, 49, 50, 51, 52, 53, 54, 55, 56, 57, 58, 59, 60, 61, 62, 63, 64, 65, 66, 67, 68, 69, 70, 71, 72, 73, 74, 75, 76, 77, 78, 79, 80, 81, 82, 83, 84, 85, 86, 87, 88, 89, 90, 91, 92, 93, 94, 95, 96, 97, 98, 99, 100, 101, 102, 103, 104, 105, 106, 107, 108, 109, 110, 111] (by decide +kernel) (by decide +kernel)) (goodIn_sub (fun _ h => List.mem_cons_of_mem _ (List.mem_append_right _ h)) (by decide +kernel))
set_option maxRecDepth 20000 in
theorem gL_share_X5_share : GoodIn wsL_share (wsV RL 92 RX5 yX5_share wsX5_share) := goodIn_app (goodIn_of _ (by decide +kernel)) ggL_share_X5_share
theorem dL_share_0 : decode cL_share 0 = .ok (.aload_n 2, 1) := by decide +kernel
theorem dL_share_1 : decode cL_share 1 = .ok (.iconst 0, 1) := by decide +kernel
theorem dL_share_2 : decode cL_share 2 = .ok (.aload_n 0, 1) := by decide +kernel
theorem dL_share_3 : decode cL_share 3 = .ok (.iload_n 1, 1) := by decide +kernel
theorem dL_share_4 : decode cL_share 4 = .ok (.invokevirtual 92, 3) := by decide +kernel
theorem dL_share_7 : decode cL_share 7 = .ok (.dastore, 1) := by decide +kernel
theorem dL_share_8 : decode cL_share 8 = .ok (.goto 6, 3) := by decide +kernel
theorem dL_share_11 : decode cL_share 11 = .ok (.astore_n 3, 1) := by decide +kernel
theorem dL_share_12 : decode cL_share 12 = .ok (.iconst 1, 1) := by decide +kernel
theorem dL_share_13 : decode cL_share 13 = .ok (.ireturn, 1) := by decide +kernel
theorem dL_share_14 : decode cL_share 14 = .ok (.iconst 0, 1) := by decide +kernel
theorem dL_share_15 : decode cL_share 15 = .ok (.ireturn, 1) := by decide +kernel
set_option maxRecDepth 20000 in
theorem ggL_append_X5_append : GoodIn wsL_append wsX5_append := goodIn_ca (goodIn_ca (goodIn_r _ [7, 8, 9, 10, 11, 6, 12, 13, 14, 15, 16, 17, 18, 19, 20, 21, 22, 23, 24, 25, 26, 27, 28, 29, 30, 31, 32, 33, 34, 35, 36, 37, 38, 39, 40] (by decide +kernel) (by decide +kernel)) (goodIn_sub (fun _ h => List.mem_cons_of_mem _ (List.mem_append_left _ (List.mem_append_right _ h))) (by decide +kernel))) (goodIn_sub (fun _ h => List.mem_cons_of_mem _ (List.mem_append_right _ h)) (by decide +kernel))
set_option maxRecDepth 20000 in
theorem gL_append_X5_append : GoodIn wsL_append (wsV RL 96 RX5 yX5_append wsX5_append) := goodIn_app (goodIn_of _ (by decide +kernel)) ggL_append_X5_append
theorem dL_append_0 : decode cL_append 0 = .ok (.aload_n 2, 1) := by decide +kernel
theorem dL_append_1 : decode cL_append 1 = .ok (.iconst 0, 1) := by decide +kernel
theorem dL_append_2 : decode cL_append 2 = .ok (.aload_n 0, 1) := by decide +kernel
theorem dL_append_3 : decode cL_append 3 = .ok (.iload_n 1, 1) := by decide +kernel
theorem dL_append_4 : decode cL_append 4 = .ok (.invokevirtual 96, 3) := by decide +kernel
theorem dL_append_7 : decode cL_append 7 = .ok (.i2l, 1) := by decide +kernel
theorem dL_append_8 : decode cL_append 8 = .ok (.lastore, 1) := by decide +kernel
theorem dL_append_9 : decode cL_append 9 = .ok (.goto 9, 3) := by decide +kernel
theorem dL_append_12 : decode cL_append 12 = .ok (.astore_n 3, 1) := by decide +kernel
theorem dL_append_13 : decode cL_append 13 = .ok (.iconst 1, 1) := by decide +kernel
theorem dL_append_14 : decode cL_append 14 = .ok (.ireturn, 1) := by decide +kernel
theorem dL_append_15 : decode cL_append 15 = .ok (.astore_n 3, 1) := by decide +kernel
theorem dL_append_16 : decode cL_append 16 = .ok (.iconst 2, 1) := by decide +kernel
theorem dL_append_17 : decode cL_append 17 = .ok (.ireturn, 1) := by decide +kernel
theorem dL_append_18 : decode cL_append 18 = .ok (.iconst 0, 1) := by decide +kernel
theorem dL_append_19 : decode cL_append 19 = .ok (.ireturn, 1) := by decide +kernel
set_option maxRecDepth 20000 in
theorem ggL_undo_X5_undo : GoodIn wsL_undo wsX5_undo := goodIn_ca (goodIn_r _ [6, 7, 8, 9, 10, 11, 5, 12, 13, 14, 15, 16, 17, 18, 19, 20, 21, 22, 23, 24, 25, 26, 27, 28, 29, 30, 31, 32, 33, 34, 35, 36, 37, 38, 39, 40, 41, 42, 43, 44, 45, 46, 47, 48, 49, 50, 51, 52, 53, 54, 55, 56, 57, 58, 59, 60, 61, 62, 63, 64, 65, 66, 67, 68, 69, 70, 71, 72, 73, 74, 75, 76, 77, 78, 79, 80, 81, 82, 83, 84, 85, 86, 87, 88] (by decide +kernel) (by decide +kernel)) (goodIn_sub (fun _ h => List.mem_cons_of_mem _ (List.mem_append_right _ h)) (by decide +kernel))
set_option maxRecDepth 20000 in
theorem gL_undo_X5_undo : GoodIn wsL_undo (wsV RL 99 RX5 yX5_undo wsX5_undo) := goodIn_app (goodIn_of _ (by decide +kernel)) ggL_undo_X5_undo
theorem dL_undo_0 : decode cL_undo 0 = .ok (.aload_n 1, 1) := by decide +kernel
theorem dL_undo_1 : decode cL_undo 1 = .ok (.iconst 0, 1) := by decide +kernel
theorem dL_undo_2 : decode cL_undo 2 = .ok (.aload_n 0, 1) := by decide +kernel
theorem dL_undo_3 : decode cL_undo 3 = .ok (.invokevirtual 99, 3) := by decide +kernel
theorem dL_undo_6 : decode cL_undo 6 = .ok (.i2l, 1) := by decide +kernel
theorem dL_undo_7 : decode cL_undo 7 = .ok (.lastore, 1) := by decide +kernel
theorem dL_undo_8 : decode cL_undo 8 = .ok (.goto 6, 3) := by decide +kernel
theorem dL_undo_11 : decode cL_undo 11 = .ok (.astore_n 2, 1) := by decide +kernel
theorem dL_undo_12 : decode cL_undo 12 = .ok (.iconst 1, 1) := by decide +kernel
theorem dL_undo_13 : decode cL_undo 13 = .ok (.ireturn, 1) := by decide +kernel
theorem dL_undo_14 : decode cL_undo 14 = .ok (.iconst 0, 1) := by decide +kernel
theorem dL_undo_15 : decode cL_undo 15 = .ok (.ireturn, 1) := by decide +kernel
