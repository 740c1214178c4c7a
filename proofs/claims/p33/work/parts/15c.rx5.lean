set_option maxRecDepth 20000 in
theorem ggX5_init_X0_init : GoodIn wsX5_init wsX0_init := goodIn_r _ [15, 16, 2, 3, 17, 18, 19, 20, 21, 22, 23, 24, 25, 26, 27, 28, 29, 30, 31, 32, 33, 34, 35, 36, 37, 38, 39, 40, 41, 42, 43, 44, 45, 46, 47, 48, 49, 50, 51, 52, 53, 54, 55, 56, 57, 84, 85, 86, 87, 88, 69, 70, 71, 72, 89, 90, 91, 92, 93, 94, 95, 96, 97, 98, 99, 100, 101] (by decide +kernel) (by decide +kernel)
set_option maxRecDepth 20000 in
theorem gX5_init_X0_init_n11 : GoodIn wsX5_init (wsX0_init) := ggX5_init_X0_init
set_option maxRecDepth 20000 in
theorem ggX5_init_X1_init : GoodIn wsX5_init wsX1_init := goodIn_r _ [59, 60, 2, 3, 61, 62, 63, 64, 65, 66, 34, 67, 68, 77, 78, 79, 80, 81, 82, 83] (by decide +kernel) (by decide +kernel)
set_option maxRecDepth 20000 in
theorem gX5_init_X1_init_n26 : GoodIn wsX5_init (wsX1_init) := ggX5_init_X1_init
theorem dX5_init_0 : decode cX5_init 0 = .ok (.aload_n 0, 1) := by decide +kernel
theorem dX5_init_1 : decode cX5_init 1 = .ok (.invokespecial 3, 3) := by decide +kernel
theorem dX5_init_4 : decode cX5_init 4 = .ok (.aload_n 0, 1) := by decide +kernel
theorem dX5_init_5 : decode cX5_init 5 = .ok (.new 9, 3) := by decide +kernel
theorem dX5_init_8 : decode cX5_init 8 = .ok (.dup, 1) := by decide +kernel
theorem dX5_init_9 : decode cX5_init 9 = .ok (.invokespecial 11, 3) := by decide +kernel
theorem dX5_init_12 : decode cX5_init 12 = .ok (.putfield 12, 3) := by decide +kernel
theorem dX5_init_15 : decode cX5_init 15 = .ok (.aload_n 0, 1) := by decide +kernel
theorem dX5_init_16 : decode cX5_init 16 = .ok (.iconst 4, 1) := by decide +kernel
theorem dX5_init_17 : decode cX5_init 17 = .ok (.anewarray 9, 3) := by decide +kernel
theorem dX5_init_20 : decode cX5_init 20 = .ok (.putfield 16, 3) := by decide +kernel
theorem dX5_init_23 : decode cX5_init 23 = .ok (.aload_n 0, 1) := by decide +kernel
theorem dX5_init_24 : decode cX5_init 24 = .ok (.iconst 0, 1) := by decide +kernel
theorem dX5_init_25 : decode cX5_init 25 = .ok (.putfield 20, 3) := by decide +kernel
theorem dX5_init_28 : decode cX5_init 28 = .ok (.aload_n 0, 1) := by decide +kernel
theorem dX5_init_29 : decode cX5_init 29 = .ok (.new 24, 3) := by decide +kernel
theorem dX5_init_32 : decode cX5_init 32 = .ok (.dup, 1) := by decide +kernel
theorem dX5_init_33 : decode cX5_init 33 = .ok (.invokespecial 26, 3) := by decide +kernel
theorem dX5_init_36 : decode cX5_init 36 = .ok (.putfield 27, 3) := by decide +kernel
theorem dX5_init_39 : decode cX5_init 39 = .ok (.iconst 0, 1) := by decide +kernel
theorem dX5_init_40 : decode cX5_init 40 = .ok (.istore_n 1, 1) := by decide +kernel
theorem dX5_init_41 : decode cX5_init 41 = .ok (.iload_n 1, 1) := by decide +kernel
theorem dX5_init_42 : decode cX5_init 42 = .ok (.aload_n 0, 1) := by decide +kernel
theorem dX5_init_43 : decode cX5_init 43 = .ok (.getfield 16, 3) := by decide +kernel
theorem dX5_init_46 : decode cX5_init 46 = .ok (.arraylength, 1) := by decide +kernel
theorem dX5_init_47 : decode cX5_init 47 = .ok (.if_icmp .ge 22, 3) := by decide +kernel
theorem dX5_init_50 : decode cX5_init 50 = .ok (.aload_n 0, 1) := by decide +kernel
theorem dX5_init_51 : decode cX5_init 51 = .ok (.getfield 16, 3) := by decide +kernel
theorem dX5_init_54 : decode cX5_init 54 = .ok (.iload_n 1, 1) := by decide +kernel
theorem dX5_init_55 : decode cX5_init 55 = .ok (.new 9, 3) := by decide +kernel
theorem dX5_init_58 : decode cX5_init 58 = .ok (.dup, 1) := by decide +kernel
theorem dX5_init_59 : decode cX5_init 59 = .ok (.invokespecial 11, 3) := by decide +kernel
theorem dX5_init_62 : decode cX5_init 62 = .ok (.aastore, 1) := by decide +kernel
theorem dX5_init_63 : decode cX5_init 63 = .ok (.iinc 1 1, 3) := by decide +kernel
theorem dX5_init_66 : decode cX5_init 66 = .ok (.goto (-25), 3) := by decide +kernel
theorem dX5_init_69 : decode cX5_init 69 = .ok (.return_, 1) := by decide +kernel
set_option maxRecDepth 20000 in
theorem ggX5_addVersion_X5_requireWithin : GoodIn wsX5_addVersion wsX5_requireWithin := goodIn_ca (goodIn_r _ [7, 8, 9, 10, 11, 6, 12] (by decide +kernel) (by decide +kernel)) (goodIn_sub (fun _ h => List.mem_cons_of_mem _ (List.mem_append_left _ (List.mem_append_right _ h))) (by decide +kernel))
set_option maxRecDepth 20000 in
theorem gX5_addVersion_X5_requireWithin : GoodIn wsX5_addVersion (va_wsS RX5 31 yX5_requireWithin wsX5_requireWithin) := goodIn_app (goodIn_of _ (by decide +kernel)) ggX5_addVersion_X5_requireWithin
set_option maxRecDepth 20000 in
theorem ggX5_addVersion_X5_requirePossible : GoodIn wsX5_addVersion wsX5_requirePossible := goodIn_ca (goodIn_r _ [15, 16, 17] (by decide +kernel) (by decide +kernel)) (goodIn_sub (fun _ h => List.mem_cons_of_mem _ (List.mem_append_right _ h)) (by decide +kernel))
set_option maxRecDepth 20000 in
theorem gX5_addVersion_X5_requirePossible : GoodIn wsX5_addVersion (va_wsS RX5 44 yX5_requirePossible wsX5_requirePossible) := goodIn_app (goodIn_of _ (by decide +kernel)) ggX5_addVersion_X5_requirePossible
set_option maxRecDepth 20000 in
theorem ggX5_addVersion_X5_saveState : GoodIn wsX5_addVersion wsX5_saveState := goodIn_r _ [21, 22, 23, 1, 24, 25, 26, 6, 27, 28, 29, 30, 31, 32, 33, 34, 35, 36, 37, 38, 39, 40, 41, 42, 43, 44, 45, 46, 47, 48, 49, 50, 51, 52, 53, 54, 55, 56, 57, 58, 59, 60, 61, 62, 63, 64, 65, 66, 67, 68, 69, 70, 71, 72, 73, 74, 75, 80, 81, 82, 83, 84, 85, 86, 87, 88, 89, 90, 91, 92, 93, 94, 95, 96, 97, 98, 99, 100, 101, 102, 103, 104, 105] (by decide +kernel) (by decide +kernel)
set_option maxRecDepth 20000 in
theorem gX5_addVersion_X5_saveState : GoodIn wsX5_addVersion (wsV RX5 48 RX5 yX5_saveState wsX5_saveState) := goodIn_app (goodIn_of _ (by decide +kernel)) ggX5_addVersion_X5_saveState
set_option maxRecDepth 20000 in
theorem ggX5_addVersion_X4_addRow : GoodIn wsX5_addVersion wsX4_addRow := goodIn_r _ [79, 42, 43, 48, 49, 50, 88, 89, 90, 91, 92] (by decide +kernel) (by decide +kernel)
set_option maxRecDepth 20000 in
theorem gX5_addVersion_X4_addRow : GoodIn wsX5_addVersion (wsV RX5 51 RX4 yX4_addRow wsX4_addRow) := goodIn_app (goodIn_of _ (by decide +kernel)) ggX5_addVersion_X4_addRow
theorem dX5_addVersion_0 : decode cX5_addVersion 0 = .ok (.iload_n 1, 1) := by decide +kernel
theorem dX5_addVersion_1 : decode cX5_addVersion 1 = .ok (.iconst 0, 1) := by decide +kernel
theorem dX5_addVersion_2 : decode cX5_addVersion 2 = .ok (.sipush 998, 3) := by decide +kernel
theorem dX5_addVersion_5 : decode cX5_addVersion 5 = .ok (.invokestatic 31, 3) := by decide +kernel
theorem dX5_addVersion_8 : decode cX5_addVersion 8 = .ok (.iload_n 2, 1) := by decide +kernel
theorem dX5_addVersion_9 : decode cX5_addVersion 9 = .ok (.iload_n 1, 1) := by decide +kernel
theorem dX5_addVersion_10 : decode cX5_addVersion 10 = .ok (.iconst 1, 1) := by decide +kernel
theorem dX5_addVersion_11 : decode cX5_addVersion 11 = .ok (.iadd, 1) := by decide +kernel
theorem dX5_addVersion_12 : decode cX5_addVersion 12 = .ok (.sipush 1000, 3) := by decide +kernel
theorem dX5_addVersion_15 : decode cX5_addVersion 15 = .ok (.invokestatic 31, 3) := by decide +kernel
theorem dX5_addVersion_18 : decode cX5_addVersion 18 = .ok (.aload_n 0, 1) := by decide +kernel
theorem dX5_addVersion_19 : decode cX5_addVersion 19 = .ok (.getfield 12, 3) := by decide +kernel
theorem dX5_addVersion_22 : decode cX5_addVersion 22 = .ok (.getfield 35, 3) := by decide +kernel
theorem dX5_addVersion_25 : decode cX5_addVersion 25 = .ok (.getfield 39, 3) := by decide +kernel
theorem dX5_addVersion_28 : decode cX5_addVersion 28 = .ok (.bipush 8, 2) := by decide +kernel
theorem dX5_addVersion_30 : decode cX5_addVersion 30 = .ok (.if_icmp .ge 7, 3) := by decide +kernel
theorem dX5_addVersion_33 : decode cX5_addVersion 33 = .ok (.iconst 1, 1) := by decide +kernel
theorem dX5_addVersion_34 : decode cX5_addVersion 34 = .ok (.goto 4, 3) := by decide +kernel
theorem dX5_addVersion_37 : decode cX5_addVersion 37 = .ok (.iconst 0, 1) := by decide +kernel
theorem dX5_addVersion_38 : decode cX5_addVersion 38 = .ok (.invokestatic 44, 3) := by decide +kernel
theorem dX5_addVersion_41 : decode cX5_addVersion 41 = .ok (.aload_n 0, 1) := by decide +kernel
theorem dX5_addVersion_42 : decode cX5_addVersion 42 = .ok (.invokevirtual 48, 3) := by decide +kernel
theorem dX5_addVersion_45 : decode cX5_addVersion 45 = .ok (.aload_n 0, 1) := by decide +kernel
theorem dX5_addVersion_46 : decode cX5_addVersion 46 = .ok (.getfield 12, 3) := by decide +kernel
theorem dX5_addVersion_49 : decode cX5_addVersion 49 = .ok (.getfield 35, 3) := by decide +kernel
theorem dX5_addVersion_52 : decode cX5_addVersion 52 = .ok (.iload_n 1, 1) := by decide +kernel
theorem dX5_addVersion_53 : decode cX5_addVersion 53 = .ok (.iload_n 2, 1) := by decide +kernel
theorem dX5_addVersion_54 : decode cX5_addVersion 54 = .ok (.invokevirtual 51, 3) := by decide +kernel
theorem dX5_addVersion_57 : decode cX5_addVersion 57 = .ok (.ireturn, 1) := by decide +kernel
set_option maxRecDepth 20000 in
theorem ggX5_addFeature_X5_requireSet : GoodIn wsX5_addFeature wsX5_requireSet := goodIn_ca (goodIn_r _ [8, 9, 10, 7, 11, 12, 13, 14, 15, 16] (by decide +kernel) (by decide +kernel)) (goodIn_sub (fun _ h => List.mem_cons_of_mem _ (List.mem_append_left _ (List.mem_append_right _ h))) (by decide +kernel))
set_option maxRecDepth 20000 in
theorem gX5_addFeature_X5_requireSet : GoodIn wsX5_addFeature (va_wsS RX5 55 yX5_requireSet wsX5_requireSet) := goodIn_app (goodIn_of _ (by decide +kernel)) ggX5_addFeature_X5_requireSet
set_option maxRecDepth 20000 in
theorem ggX5_addFeature_X5_requirePossible : GoodIn wsX5_addFeature wsX5_requirePossible := goodIn_ca (goodIn_r _ [19, 20, 21] (by decide +kernel) (by decide +kernel)) (goodIn_sub (fun _ h => List.mem_cons_of_mem _ (List.mem_append_right _ h)) (by decide +kernel))
set_option maxRecDepth 20000 in
theorem gX5_addFeature_X5_requirePossible : GoodIn wsX5_addFeature (va_wsS RX5 44 yX5_requirePossible wsX5_requirePossible) := goodIn_app (goodIn_of _ (by decide +kernel)) ggX5_addFeature_X5_requirePossible
set_option maxRecDepth 20000 in
theorem ggX5_addFeature_X5_saveState : GoodIn wsX5_addFeature wsX5_saveState := goodIn_r _ [25, 26, 27, 1, 28, 29, 30, 7, 31, 32, 33, 34, 35, 36, 37, 38, 39, 40, 41, 42, 43, 44, 45, 46, 47, 48, 49, 50, 51, 52, 53, 54, 55, 56, 57, 58, 59, 60, 61, 62, 63, 64, 65, 66, 67, 68, 69, 70, 71, 72, 73, 74, 75, 76, 77, 78, 79, 88, 89, 90, 91, 92, 93, 94, 95, 96, 97, 98, 99, 100, 101, 102, 103, 104, 105, 106, 107, 108, 109, 110, 111, 112, 113] (by decide +kernel) (by decide +kernel)
set_option maxRecDepth 20000 in
theorem gX5_addFeature_X5_saveState : GoodIn wsX5_addFeature (wsV RX5 48 RX5 yX5_saveState wsX5_saveState) := goodIn_app (goodIn_of _ (by decide +kernel)) ggX5_addFeature_X5_saveState
set_option maxRecDepth 20000 in
theorem ggX5_addFeature_X0_appendFeature : GoodIn wsX5_addFeature wsX0_appendFeature := goodIn_r _ [83, 38, 37, 84, 85, 86, 7, 87, 92, 93, 94, 95, 96, 97, 98, 99, 100] (by decide +kernel) (by decide +kernel)
set_option maxRecDepth 20000 in
theorem gX5_addFeature_X0_appendFeature : GoodIn wsX5_addFeature (wsV RX5 62 RX0 yX0_appendFeature wsX0_appendFeature) := goodIn_app (goodIn_of _ (by decide +kernel)) ggX5_addFeature_X0_appendFeature
theorem dX5_addFeature_0 : decode cX5_addFeature 0 = .ok (.iload_n 1, 1) := by decide +kernel
theorem dX5_addFeature_1 : decode cX5_addFeature 1 = .ok (.aload_n 0, 1) := by decide +kernel
theorem dX5_addFeature_2 : decode cX5_addFeature 2 = .ok (.getfield 12, 3) := by decide +kernel
theorem dX5_addFeature_5 : decode cX5_addFeature 5 = .ok (.getfield 35, 3) := by decide +kernel
theorem dX5_addFeature_8 : decode cX5_addFeature 8 = .ok (.getfield 39, 3) := by decide +kernel
theorem dX5_addFeature_11 : decode cX5_addFeature 11 = .ok (.invokestatic 55, 3) := by decide +kernel
theorem dX5_addFeature_14 : decode cX5_addFeature 14 = .ok (.aload_n 0, 1) := by decide +kernel
theorem dX5_addFeature_15 : decode cX5_addFeature 15 = .ok (.getfield 12, 3) := by decide +kernel
theorem dX5_addFeature_18 : decode cX5_addFeature 18 = .ok (.getfield 59, 3) := by decide +kernel
theorem dX5_addFeature_21 : decode cX5_addFeature 21 = .ok (.bipush 10, 2) := by decide +kernel
theorem dX5_addFeature_23 : decode cX5_addFeature 23 = .ok (.if_icmp .ge 7, 3) := by decide +kernel
theorem dX5_addFeature_26 : decode cX5_addFeature 26 = .ok (.iconst 1, 1) := by decide +kernel
theorem dX5_addFeature_27 : decode cX5_addFeature 27 = .ok (.goto 4, 3) := by decide +kernel
theorem dX5_addFeature_30 : decode cX5_addFeature 30 = .ok (.iconst 0, 1) := by decide +kernel
theorem dX5_addFeature_31 : decode cX5_addFeature 31 = .ok (.invokestatic 44, 3) := by decide +kernel
theorem dX5_addFeature_34 : decode cX5_addFeature 34 = .ok (.aload_n 0, 1) := by decide +kernel
theorem dX5_addFeature_35 : decode cX5_addFeature 35 = .ok (.invokevirtual 48, 3) := by decide +kernel
theorem dX5_addFeature_38 : decode cX5_addFeature 38 = .ok (.aload_n 0, 1) := by decide +kernel
theorem dX5_addFeature_39 : decode cX5_addFeature 39 = .ok (.getfield 12, 3) := by decide +kernel
theorem dX5_addFeature_42 : decode cX5_addFeature 42 = .ok (.iload_n 1, 1) := by decide +kernel
theorem dX5_addFeature_43 : decode cX5_addFeature 43 = .ok (.invokevirtual 62, 3) := by decide +kernel
theorem dX5_addFeature_46 : decode cX5_addFeature 46 = .ok (.ireturn, 1) := by decide +kernel
set_option maxRecDepth 20000 in
theorem ggX5_put_X5_requireThere : GoodIn wsX5_put wsX5_requireThere := goodIn_ca (goodIn_r _ [9, 10, 11, 12, 13, 8, 14] (by decide +kernel) (by decide +kernel)) (goodIn_sub (fun _ h => List.mem_cons_of_mem _ (List.mem_append_left _ (List.mem_append_right _ h))) (by decide +kernel))
set_option maxRecDepth 20000 in
theorem gX5_put_X5_requireThere : GoodIn wsX5_put (va_wsS RX5 66 yX5_requireThere wsX5_requireThere) := goodIn_app (goodIn_of _ (by decide +kernel)) ggX5_put_X5_requireThere
set_option maxRecDepth 20000 in
theorem ggX5_put_X5_contains : GoodIn wsX5_put wsX5_contains := goodIn_r _ [17] (by decide +kernel) (by decide +kernel)
set_option maxRecDepth 20000 in
theorem gX5_put_X5_contains : GoodIn wsX5_put (va_wsS RX5 73 yX5_contains wsX5_contains) := goodIn_app (goodIn_of _ (by decide +kernel)) ggX5_put_X5_contains
set_option maxRecDepth 20000 in
theorem ggX5_put_X5_requirePossible : GoodIn wsX5_put wsX5_requirePossible := goodIn_ca (goodIn_r _ [20, 21, 22] (by decide +kernel) (by decide +kernel)) (goodIn_sub (fun _ h => List.mem_cons_of_mem _ (List.mem_append_right _ h)) (by decide +kernel))
set_option maxRecDepth 20000 in
theorem gX5_put_X5_requirePossible : GoodIn wsX5_put (va_wsS RX5 44 yX5_requirePossible wsX5_requirePossible) := goodIn_app (goodIn_of _ (by decide +kernel)) ggX5_put_X5_requirePossible
set_option maxRecDepth 20000 in
theorem ggX5_put_X5_saveState : GoodIn wsX5_put wsX5_saveState := goodIn_r _ [26, 27, 28, 1, 29, 30, 31, 8, 32, 33, 34, 35, 36, 37, 38, 39, 40, 41, 42, 43, 44, 45, 46, 47, 48, 49, 50, 51, 52, 53, 54, 55, 56, 57, 58, 59, 60, 61, 62, 63, 64, 65, 66, 67, 68, 69, 70, 71, 72, 73, 74, 75, 76, 77, 78, 79, 80, 85, 86, 87, 88, 89, 90, 91, 92, 93, 94, 95, 96, 97, 98, 99, 100, 101, 102, 103, 104, 105, 106, 107, 108, 109, 110] (by decide +kernel) (by decide +kernel)
set_option maxRecDepth 20000 in
theorem gX5_put_X5_saveState : GoodIn wsX5_put (wsV RX5 48 RX5 yX5_saveState wsX5_saveState) := goodIn_app (goodIn_of _ (by decide +kernel)) ggX5_put_X5_saveState
set_option maxRecDepth 20000 in
theorem ggX5_put_X4_allWith : GoodIn wsX5_put wsX4_allWith := goodIn_r _ [84, 47, 55, 16, 8, 17, 93, 94, 95, 96, 97] (by decide +kernel) (by decide +kernel)
set_option maxRecDepth 20000 in
theorem gX5_put_X4_allWith : GoodIn wsX5_put (wsV RX5 77 RX4 yX4_allWith wsX4_allWith) := goodIn_app (goodIn_of _ (by decide +kernel)) ggX5_put_X4_allWith
theorem dX5_put_0 : decode cX5_put 0 = .ok (.iload_n 1, 1) := by decide +kernel
theorem dX5_put_1 : decode cX5_put 1 = .ok (.aload_n 0, 1) := by decide +kernel
theorem dX5_put_2 : decode cX5_put 2 = .ok (.getfield 12, 3) := by decide +kernel
theorem dX5_put_5 : decode cX5_put 5 = .ok (.getfield 59, 3) := by decide +kernel
theorem dX5_put_8 : decode cX5_put 8 = .ok (.invokestatic 66, 3) := by decide +kernel
theorem dX5_put_11 : decode cX5_put 11 = .ok (.iload_n 2, 1) := by decide +kernel
theorem dX5_put_12 : decode cX5_put 12 = .ok (.aload_n 0, 1) := by decide +kernel
theorem dX5_put_13 : decode cX5_put 13 = .ok (.getfield 12, 3) := by decide +kernel
theorem dX5_put_16 : decode cX5_put 16 = .ok (.getfield 35, 3) := by decide +kernel
theorem dX5_put_19 : decode cX5_put 19 = .ok (.getfield 39, 3) := by decide +kernel
theorem dX5_put_22 : decode cX5_put 22 = .ok (.invokestatic 66, 3) := by decide +kernel
theorem dX5_put_25 : decode cX5_put 25 = .ok (.aload_n 0, 1) := by decide +kernel
theorem dX5_put_26 : decode cX5_put 26 = .ok (.getfield 12, 3) := by decide +kernel
theorem dX5_put_29 : decode cX5_put 29 = .ok (.getfield 35, 3) := by decide +kernel
theorem dX5_put_32 : decode cX5_put 32 = .ok (.getfield 69, 3) := by decide +kernel
theorem dX5_put_35 : decode cX5_put 35 = .ok (.iload_n 2, 1) := by decide +kernel
theorem dX5_put_36 : decode cX5_put 36 = .ok (.iaload, 1) := by decide +kernel
theorem dX5_put_37 : decode cX5_put 37 = .ok (.iload_n 1, 1) := by decide +kernel
theorem dX5_put_38 : decode cX5_put 38 = .ok (.invokestatic 73, 3) := by decide +kernel
theorem dX5_put_41 : decode cX5_put 41 = .ok (.iload_n 3, 1) := by decide +kernel
theorem dX5_put_42 : decode cX5_put 42 = .ok (.if_icmp .eq 7, 3) := by decide +kernel
theorem dX5_put_45 : decode cX5_put 45 = .ok (.iconst 1, 1) := by decide +kernel
theorem dX5_put_46 : decode cX5_put 46 = .ok (.goto 4, 3) := by decide +kernel
theorem dX5_put_49 : decode cX5_put 49 = .ok (.iconst 0, 1) := by decide +kernel
theorem dX5_put_50 : decode cX5_put 50 = .ok (.invokestatic 44, 3) := by decide +kernel
theorem dX5_put_53 : decode cX5_put 53 = .ok (.aload_n 0, 1) := by decide +kernel
theorem dX5_put_54 : decode cX5_put 54 = .ok (.invokevirtual 48, 3) := by decide +kernel
theorem dX5_put_57 : decode cX5_put 57 = .ok (.aload_n 0, 1) := by decide +kernel
theorem dX5_put_58 : decode cX5_put 58 = .ok (.getfield 12, 3) := by decide +kernel
theorem dX5_put_61 : decode cX5_put 61 = .ok (.getfield 35, 3) := by decide +kernel
theorem dX5_put_64 : decode cX5_put 64 = .ok (.getfield 69, 3) := by decide +kernel
theorem dX5_put_67 : decode cX5_put 67 = .ok (.iload_n 2, 1) := by decide +kernel
theorem dX5_put_68 : decode cX5_put 68 = .ok (.dup2, 1) := by decide +kernel
theorem dX5_put_69 : decode cX5_put 69 = .ok (.iaload, 1) := by decide +kernel
theorem dX5_put_70 : decode cX5_put 70 = .ok (.iconst 1, 1) := by decide +kernel
theorem dX5_put_71 : decode cX5_put 71 = .ok (.iload_n 1, 1) := by decide +kernel
theorem dX5_put_72 : decode cX5_put 72 = .ok (.ishl, 1) := by decide +kernel
theorem dX5_put_73 : decode cX5_put 73 = .ok (.ixor, 1) := by decide +kernel
theorem dX5_put_74 : decode cX5_put 74 = .ok (.iastore, 1) := by decide +kernel
theorem dX5_put_75 : decode cX5_put 75 = .ok (.aload_n 0, 1) := by decide +kernel
theorem dX5_put_76 : decode cX5_put 76 = .ok (.getfield 12, 3) := by decide +kernel
theorem dX5_put_79 : decode cX5_put 79 = .ok (.getfield 35, 3) := by decide +kernel
theorem dX5_put_82 : decode cX5_put 82 = .ok (.iload_n 1, 1) := by decide +kernel
theorem dX5_put_83 : decode cX5_put 83 = .ok (.invokevirtual 77, 3) := by decide +kernel
theorem dX5_put_86 : decode cX5_put 86 = .ok (.ireturn, 1) := by decide +kernel
set_option maxRecDepth 20000 in
theorem ggX5_addUser_X5_requireThere : GoodIn wsX5_addUser wsX5_requireThere := goodIn_ca (goodIn_r _ [10, 11, 12, 13, 14, 9, 15] (by decide +kernel) (by decide +kernel)) (goodIn_sub (fun _ h => List.mem_cons_of_mem _ (List.mem_append_left _ (List.mem_append_left _ (List.mem_append_right _ h)))) (by decide +kernel))
set_option maxRecDepth 20000 in
theorem gX5_addUser_X5_requireThere : GoodIn wsX5_addUser (va_wsS RX5 66 yX5_requireThere wsX5_requireThere) := goodIn_app (goodIn_of _ (by decide +kernel)) ggX5_addUser_X5_requireThere
set_option maxRecDepth 20000 in
theorem ggX5_addUser_X5_requireSet : GoodIn wsX5_addUser wsX5_requireSet := goodIn_ca (goodIn_r _ [18, 19, 20, 9, 21, 22, 23, 24, 25, 26] (by decide +kernel) (by decide +kernel)) (goodIn_sub (fun _ h => List.mem_cons_of_mem _ (List.mem_append_left _ (List.mem_append_right _ h))) (by decide +kernel))
set_option maxRecDepth 20000 in
theorem gX5_addUser_X5_requireSet : GoodIn wsX5_addUser (va_wsS RX5 55 yX5_requireSet wsX5_requireSet) := goodIn_app (goodIn_of _ (by decide +kernel)) ggX5_addUser_X5_requireSet
set_option maxRecDepth 20000 in
theorem ggX5_addUser_X5_requirePossible : GoodIn wsX5_addUser wsX5_requirePossible := goodIn_ca (goodIn_r _ [29, 30, 31] (by decide +kernel) (by decide +kernel)) (goodIn_sub (fun _ h => List.mem_cons_of_mem _ (List.mem_append_right _ h)) (by decide +kernel))
set_option maxRecDepth 20000 in
theorem gX5_addUser_X5_requirePossible : GoodIn wsX5_addUser (va_wsS RX5 44 yX5_requirePossible wsX5_requirePossible) := goodIn_app (goodIn_of _ (by decide +kernel)) ggX5_addUser_X5_requirePossible
set_option maxRecDepth 20000 in
theorem ggX5_addUser_X5_saveState : GoodIn wsX5_addUser wsX5_saveState := goodIn_r _ [35, 36, 37, 1, 38, 39, 40, 9, 41, 42, 43, 44, 45, 46, 47, 48, 49, 50, 51, 52, 53, 54, 55, 56, 57, 58, 59, 60, 61, 62, 63, 64, 65, 66, 67, 68, 69, 70, 71, 72, 73, 74, 75, 76, 77, 78, 79, 80, 81, 82, 83, 84, 85, 86, 87, 88, 89, 98, 99, 100, 101, 102, 103, 104, 105, 106, 107, 108, 109, 110, 111, 112, 113, 114, 115, 116, 117, 118, 119, 120, 121, 122, 123] (by decide +kernel) (by decide +kernel)
set_option maxRecDepth 20000 in
theorem gX5_addUser_X5_saveState : GoodIn wsX5_addUser (wsV RX5 48 RX5 yX5_saveState wsX5_saveState) := goodIn_app (goodIn_of _ (by decide +kernel)) ggX5_addUser_X5_saveState
set_option maxRecDepth 20000 in
theorem ggX5_addUser_X3_addRow : GoodIn wsX5_addUser wsX3_addRow := goodIn_r _ [93, 70, 71, 73, 76, 77, 94, 95, 96, 68, 97, 74, 75, 111, 112, 113, 114, 115, 116, 117] (by decide +kernel) (by decide +kernel)
set_option maxRecDepth 20000 in
theorem gX5_addUser_X3_addRow : GoodIn wsX5_addUser (wsV RX5 87 RX3 yX3_addRow wsX3_addRow) := goodIn_app (goodIn_of _ (by decide +kernel)) ggX5_addUser_X3_addRow
theorem dX5_addUser_0 : decode cX5_addUser 0 = .ok (.iload_n 1, 1) := by decide +kernel
theorem dX5_addUser_1 : decode cX5_addUser 1 = .ok (.aload_n 0, 1) := by decide +kernel
theorem dX5_addUser_2 : decode cX5_addUser 2 = .ok (.getfield 12, 3) := by decide +kernel
theorem dX5_addUser_5 : decode cX5_addUser 5 = .ok (.getfield 35, 3) := by decide +kernel
theorem dX5_addUser_8 : decode cX5_addUser 8 = .ok (.getfield 39, 3) := by decide +kernel
theorem dX5_addUser_11 : decode cX5_addUser 11 = .ok (.invokestatic 66, 3) := by decide +kernel
theorem dX5_addUser_14 : decode cX5_addUser 14 = .ok (.iload_n 2, 1) := by decide +kernel
theorem dX5_addUser_15 : decode cX5_addUser 15 = .ok (.aload_n 0, 1) := by decide +kernel
theorem dX5_addUser_16 : decode cX5_addUser 16 = .ok (.getfield 12, 3) := by decide +kernel
theorem dX5_addUser_19 : decode cX5_addUser 19 = .ok (.getfield 59, 3) := by decide +kernel
theorem dX5_addUser_22 : decode cX5_addUser 22 = .ok (.invokestatic 55, 3) := by decide +kernel
theorem dX5_addUser_25 : decode cX5_addUser 25 = .ok (.aload_n 0, 1) := by decide +kernel
theorem dX5_addUser_26 : decode cX5_addUser 26 = .ok (.getfield 12, 3) := by decide +kernel
theorem dX5_addUser_29 : decode cX5_addUser 29 = .ok (.getfield 80, 3) := by decide +kernel
theorem dX5_addUser_32 : decode cX5_addUser 32 = .ok (.getfield 84, 3) := by decide +kernel
theorem dX5_addUser_35 : decode cX5_addUser 35 = .ok (.bipush 10, 2) := by decide +kernel
theorem dX5_addUser_37 : decode cX5_addUser 37 = .ok (.if_icmp .ge 7, 3) := by decide +kernel
theorem dX5_addUser_40 : decode cX5_addUser 40 = .ok (.iconst 1, 1) := by decide +kernel
theorem dX5_addUser_41 : decode cX5_addUser 41 = .ok (.goto 4, 3) := by decide +kernel
theorem dX5_addUser_44 : decode cX5_addUser 44 = .ok (.iconst 0, 1) := by decide +kernel
theorem dX5_addUser_45 : decode cX5_addUser 45 = .ok (.invokestatic 44, 3) := by decide +kernel
theorem dX5_addUser_48 : decode cX5_addUser 48 = .ok (.aload_n 0, 1) := by decide +kernel
theorem dX5_addUser_49 : decode cX5_addUser 49 = .ok (.invokevirtual 48, 3) := by decide +kernel
theorem dX5_addUser_52 : decode cX5_addUser 52 = .ok (.aload_n 0, 1) := by decide +kernel
theorem dX5_addUser_53 : decode cX5_addUser 53 = .ok (.getfield 12, 3) := by decide +kernel
theorem dX5_addUser_56 : decode cX5_addUser 56 = .ok (.getfield 80, 3) := by decide +kernel
theorem dX5_addUser_59 : decode cX5_addUser 59 = .ok (.iload_n 1, 1) := by decide +kernel
theorem dX5_addUser_60 : decode cX5_addUser 60 = .ok (.iload_n 2, 1) := by decide +kernel
theorem dX5_addUser_61 : decode cX5_addUser 61 = .ok (.invokevirtual 87, 3) := by decide +kernel
theorem dX5_addUser_64 : decode cX5_addUser 64 = .ok (.ireturn, 1) := by decide +kernel
set_option maxRecDepth 20000 in
theorem ggX5_pledge_X0_pledgeFault : GoodIn wsX5_pledge wsX0_pledgeFault := goodIn_r _ [8, 9, 10, 11, 12, 13, 14, 15, 16, 17, 90, 91, 92, 93, 94, 95, 96, 97, 98, 99, 100, 101, 102, 103, 104, 105] (by decide +kernel) (by decide +kernel)
set_option maxRecDepth 20000 in
theorem gX5_pledge_X0_pledgeFault : GoodIn wsX5_pledge (wsV RX5 88 RX0 yX0_pledgeFault wsX0_pledgeFault) := goodIn_app (goodIn_of _ (by decide +kernel)) ggX5_pledge_X0_pledgeFault
set_option maxRecDepth 20000 in
theorem ggX5_pledge_X5_refuse : GoodIn wsX5_pledge wsX5_refuse := goodIn_ca (goodIn_ca (goodIn_ca (goodIn_r _ [20, 21, 22, 23, 24, 25, 26] (by decide +kernel) (by decide +kernel)) (goodIn_sub (fun _ h => List.mem_cons_of_mem _ (List.mem_append_left _ (List.mem_append_left _ (List.mem_append_right _ h)))) (by decide +kernel))) (goodIn_sub (fun _ h => List.mem_cons_of_mem _ (List.mem_append_left _ (List.mem_append_right _ h))) (by decide +kernel))) (goodIn_sub (fun _ h => List.mem_cons_of_mem _ (List.mem_append_right _ h)) (by decide +kernel))
set_option maxRecDepth 20000 in
theorem gX5_pledge_X5_refuse : GoodIn wsX5_pledge (va_wsS RX5 92 yX5_refuse wsX5_refuse) := goodIn_app (goodIn_of _ (by decide +kernel)) ggX5_pledge_X5_refuse
set_option maxRecDepth 20000 in
theorem ggX5_pledge_X5_saveState : GoodIn wsX5_pledge wsX5_saveState := goodIn_r _ [30, 31, 32, 1, 33, 34, 35, 14, 36, 37, 38, 39, 7, 40, 11, 41, 9, 42, 43, 44, 45, 46, 47, 48, 49, 50, 51, 52, 53, 54, 55, 56, 57, 58, 59, 60, 61, 62, 63, 64, 65, 66, 67, 68, 69, 70, 71, 72, 73, 74, 75, 76, 77, 78, 79, 80, 81, 86, 87, 88, 89, 90, 91, 92, 93, 101, 102, 103, 104, 105, 94, 95, 96, 97, 98, 99, 100, 106, 107, 108, 109, 110, 111] (by decide +kernel) (by decide +kernel)
set_option maxRecDepth 20000 in
theorem gX5_pledge_X5_saveState : GoodIn wsX5_pledge (wsV RX5 48 RX5 yX5_saveState wsX5_saveState) := goodIn_app (goodIn_of _ (by decide +kernel)) ggX5_pledge_X5_saveState
set_option maxRecDepth 20000 in
theorem ggX5_pledge_X3_setPledge : GoodIn wsX5_pledge wsX3_setPledge := goodIn_r _ [85, 66, 67, 94, 95, 96, 97, 98, 99, 100] (by decide +kernel) (by decide +kernel)
set_option maxRecDepth 20000 in
theorem gX5_pledge_X3_setPledge : GoodIn wsX5_pledge (wsV RX5 99 RX3 yX3_setPledge wsX3_setPledge) := goodIn_app (goodIn_of _ (by decide +kernel)) ggX5_pledge_X3_setPledge
theorem dX5_pledge_0 : decode cX5_pledge 0 = .ok (.aload_n 0, 1) := by decide +kernel
theorem dX5_pledge_1 : decode cX5_pledge 1 = .ok (.getfield 12, 3) := by decide +kernel
theorem dX5_pledge_4 : decode cX5_pledge 4 = .ok (.iload_n 1, 1) := by decide +kernel
theorem dX5_pledge_5 : decode cX5_pledge 5 = .ok (.iload_n 2, 1) := by decide +kernel
theorem dX5_pledge_6 : decode cX5_pledge 6 = .ok (.iload_n 3, 1) := by decide +kernel
theorem dX5_pledge_7 : decode cX5_pledge 7 = .ok (.invokevirtual 88, 3) := by decide +kernel
theorem dX5_pledge_10 : decode cX5_pledge 10 = .ok (.invokestatic 92, 3) := by decide +kernel
theorem dX5_pledge_13 : decode cX5_pledge 13 = .ok (.aload_n 0, 1) := by decide +kernel
theorem dX5_pledge_14 : decode cX5_pledge 14 = .ok (.invokevirtual 48, 3) := by decide +kernel
theorem dX5_pledge_17 : decode cX5_pledge 17 = .ok (.aload_n 0, 1) := by decide +kernel
theorem dX5_pledge_18 : decode cX5_pledge 18 = .ok (.getfield 12, 3) := by decide +kernel
theorem dX5_pledge_21 : decode cX5_pledge 21 = .ok (.getfield 80, 3) := by decide +kernel
theorem dX5_pledge_24 : decode cX5_pledge 24 = .ok (.getfield 96, 3) := by decide +kernel
theorem dX5_pledge_27 : decode cX5_pledge 27 = .ok (.iload_n 1, 1) := by decide +kernel
theorem dX5_pledge_28 : decode cX5_pledge 28 = .ok (.iaload, 1) := by decide +kernel
theorem dX5_pledge_29 : decode cX5_pledge 29 = .ok (.istore 4, 2) := by decide +kernel
theorem dX5_pledge_31 : decode cX5_pledge 31 = .ok (.aload_n 0, 1) := by decide +kernel
theorem dX5_pledge_32 : decode cX5_pledge 32 = .ok (.getfield 12, 3) := by decide +kernel
theorem dX5_pledge_35 : decode cX5_pledge 35 = .ok (.getfield 80, 3) := by decide +kernel
theorem dX5_pledge_38 : decode cX5_pledge 38 = .ok (.iload_n 1, 1) := by decide +kernel
theorem dX5_pledge_39 : decode cX5_pledge 39 = .ok (.iload_n 2, 1) := by decide +kernel
theorem dX5_pledge_40 : decode cX5_pledge 40 = .ok (.iload_n 3, 1) := by decide +kernel
theorem dX5_pledge_41 : decode cX5_pledge 41 = .ok (.invokevirtual 99, 3) := by decide +kernel
theorem dX5_pledge_44 : decode cX5_pledge 44 = .ok (.iload 4, 2) := by decide +kernel
theorem dX5_pledge_46 : decode cX5_pledge 46 = .ok (.ireturn, 1) := by decide +kernel
set_option maxRecDepth 20000 in
theorem ggX5_takeBack_X5_requireThere : GoodIn wsX5_takeBack wsX5_requireThere := goodIn_ca (goodIn_r _ [8, 9, 10, 11, 12, 7, 13] (by decide +kernel) (by decide +kernel)) (goodIn_sub (fun _ h => List.mem_cons_of_mem _ (List.mem_append_left _ (List.mem_append_right _ h))) (by decide +kernel))
set_option maxRecDepth 20000 in
theorem gX5_takeBack_X5_requireThere : GoodIn wsX5_takeBack (va_wsS RX5 66 yX5_requireThere wsX5_requireThere) := goodIn_app (goodIn_of _ (by decide +kernel)) ggX5_takeBack_X5_requireThere
set_option maxRecDepth 20000 in
theorem ggX5_takeBack_X3_isPledged : GoodIn wsX5_takeBack wsX3_isPledged := goodIn_r _ [18, 19, 93, 94, 95, 96, 97, 98, 99] (by decide +kernel) (by decide +kernel)
set_option maxRecDepth 20000 in
theorem gX5_takeBack_X3_isPledged : GoodIn wsX5_takeBack (wsV RX5 102 RX3 yX3_isPledged wsX3_isPledged) := goodIn_app (goodIn_of _ (by decide +kernel)) ggX5_takeBack_X3_isPledged
set_option maxRecDepth 20000 in
theorem ggX5_takeBack_X5_requirePossible : GoodIn wsX5_takeBack wsX5_requirePossible := goodIn_ca (goodIn_r _ [22, 23, 24] (by decide +kernel) (by decide +kernel)) (goodIn_sub (fun _ h => List.mem_cons_of_mem _ (List.mem_append_right _ h)) (by decide +kernel))
set_option maxRecDepth 20000 in
theorem gX5_takeBack_X5_requirePossible : GoodIn wsX5_takeBack (va_wsS RX5 44 yX5_requirePossible wsX5_requirePossible) := goodIn_app (goodIn_of _ (by decide +kernel)) ggX5_takeBack_X5_requirePossible
set_option maxRecDepth 20000 in
theorem ggX5_takeBack_X5_saveState : GoodIn wsX5_takeBack wsX5_saveState := goodIn_r _ [28, 29, 30, 1, 31, 32, 33, 7, 34, 35, 36, 37, 38, 39, 40, 41, 42, 43, 44, 45, 46, 47, 48, 49, 50, 51, 52, 53, 54, 55, 56, 57, 58, 59, 60, 17, 61, 62, 63, 64, 65, 19, 66, 67, 68, 69, 70, 71, 72, 73, 74, 75, 76, 77, 78, 79, 80, 85, 86, 87, 88, 89, 90, 91, 92, 100, 101, 102, 103, 104, 93, 94, 95, 96, 97, 98, 99, 105, 106, 107, 108, 109, 110] (by decide +kernel) (by decide +kernel)
set_option maxRecDepth 20000 in
theorem gX5_takeBack_X5_saveState : GoodIn wsX5_takeBack (wsV RX5 48 RX5 yX5_saveState wsX5_saveState) := goodIn_app (goodIn_of _ (by decide +kernel)) ggX5_takeBack_X5_saveState
set_option maxRecDepth 20000 in
theorem ggX5_takeBack_X3_setPledge : GoodIn wsX5_takeBack wsX3_setPledge := goodIn_r _ [84, 19, 66, 93, 94, 95, 96, 97, 98, 99] (by decide +kernel) (by decide +kernel)
set_option maxRecDepth 20000 in
theorem gX5_takeBack_X3_setPledge : GoodIn wsX5_takeBack (wsV RX5 99 RX3 yX3_setPledge wsX3_setPledge) := goodIn_app (goodIn_of _ (by decide +kernel)) ggX5_takeBack_X3_setPledge
theorem dX5_takeBack_0 : decode cX5_takeBack 0 = .ok (.iload_n 1, 1) := by decide +kernel
theorem dX5_takeBack_1 : decode cX5_takeBack 1 = .ok (.aload_n 0, 1) := by decide +kernel
theorem dX5_takeBack_2 : decode cX5_takeBack 2 = .ok (.getfield 12, 3) := by decide +kernel
theorem dX5_takeBack_5 : decode cX5_takeBack 5 = .ok (.getfield 80, 3) := by decide +kernel
theorem dX5_takeBack_8 : decode cX5_takeBack 8 = .ok (.getfield 84, 3) := by decide +kernel
theorem dX5_takeBack_11 : decode cX5_takeBack 11 = .ok (.invokestatic 66, 3) := by decide +kernel
theorem dX5_takeBack_14 : decode cX5_takeBack 14 = .ok (.aload_n 0, 1) := by decide +kernel
theorem dX5_takeBack_15 : decode cX5_takeBack 15 = .ok (.getfield 12, 3) := by decide +kernel
theorem dX5_takeBack_18 : decode cX5_takeBack 18 = .ok (.getfield 80, 3) := by decide +kernel
theorem dX5_takeBack_21 : decode cX5_takeBack 21 = .ok (.iload_n 1, 1) := by decide +kernel
theorem dX5_takeBack_22 : decode cX5_takeBack 22 = .ok (.invokevirtual 102, 3) := by decide +kernel
theorem dX5_takeBack_25 : decode cX5_takeBack 25 = .ok (.invokestatic 44, 3) := by decide +kernel
theorem dX5_takeBack_28 : decode cX5_takeBack 28 = .ok (.aload_n 0, 1) := by decide +kernel
theorem dX5_takeBack_29 : decode cX5_takeBack 29 = .ok (.invokevirtual 48, 3) := by decide +kernel
theorem dX5_takeBack_32 : decode cX5_takeBack 32 = .ok (.aload_n 0, 1) := by decide +kernel
theorem dX5_takeBack_33 : decode cX5_takeBack 33 = .ok (.getfield 12, 3) := by decide +kernel
theorem dX5_takeBack_36 : decode cX5_takeBack 36 = .ok (.getfield 80, 3) := by decide +kernel
theorem dX5_takeBack_39 : decode cX5_takeBack 39 = .ok (.getfield 96, 3) := by decide +kernel
theorem dX5_takeBack_42 : decode cX5_takeBack 42 = .ok (.iload_n 1, 1) := by decide +kernel
theorem dX5_takeBack_43 : decode cX5_takeBack 43 = .ok (.iaload, 1) := by decide +kernel
theorem dX5_takeBack_44 : decode cX5_takeBack 44 = .ok (.istore_n 2, 1) := by decide +kernel
theorem dX5_takeBack_45 : decode cX5_takeBack 45 = .ok (.aload_n 0, 1) := by decide +kernel
theorem dX5_takeBack_46 : decode cX5_takeBack 46 = .ok (.getfield 12, 3) := by decide +kernel
theorem dX5_takeBack_49 : decode cX5_takeBack 49 = .ok (.getfield 80, 3) := by decide +kernel
theorem dX5_takeBack_52 : decode cX5_takeBack 52 = .ok (.iload_n 1, 1) := by decide +kernel
theorem dX5_takeBack_53 : decode cX5_takeBack 53 = .ok (.iconst (-1), 1) := by decide +kernel
theorem dX5_takeBack_54 : decode cX5_takeBack 54 = .ok (.iconst (-1), 1) := by decide +kernel
theorem dX5_takeBack_55 : decode cX5_takeBack 55 = .ok (.invokevirtual 99, 3) := by decide +kernel
theorem dX5_takeBack_58 : decode cX5_takeBack 58 = .ok (.iload_n 2, 1) := by decide +kernel
theorem dX5_takeBack_59 : decode cX5_takeBack 59 = .ok (.ireturn, 1) := by decide +kernel
set_option maxRecDepth 20000 in
theorem ggX5_slip_X0_slipFault : GoodIn wsX5_slip wsX0_slipFault := goodIn_r _ [8, 9, 10, 11, 12, 13, 14, 15, 16, 17, 18, 19, 20, 21, 22, 94, 95, 96, 97, 98, 99, 100, 101, 102, 103, 104] (by decide +kernel) (by decide +kernel)
set_option maxRecDepth 20000 in
theorem gX5_slip_X0_slipFault : GoodIn wsX5_slip (wsV RX5 106 RX0 yX0_slipFault wsX0_slipFault) := goodIn_app (goodIn_of _ (by decide +kernel)) ggX5_slip_X0_slipFault
set_option maxRecDepth 20000 in
theorem ggX5_slip_X5_refuse : GoodIn wsX5_slip wsX5_refuse := goodIn_ca (goodIn_ca (goodIn_ca (goodIn_r _ [25, 26, 27, 28, 29, 30, 31] (by decide +kernel) (by decide +kernel)) (goodIn_sub (fun _ h => List.mem_cons_of_mem _ (List.mem_append_left _ (List.mem_append_left _ (List.mem_append_right _ h)))) (by decide +kernel))) (goodIn_sub (fun _ h => List.mem_cons_of_mem _ (List.mem_append_left _ (List.mem_append_right _ h))) (by decide +kernel))) (goodIn_sub (fun _ h => List.mem_cons_of_mem _ (List.mem_append_right _ h)) (by decide +kernel))
set_option maxRecDepth 20000 in
theorem gX5_slip_X5_refuse : GoodIn wsX5_slip (va_wsS RX5 92 yX5_refuse wsX5_refuse) := goodIn_app (goodIn_of _ (by decide +kernel)) ggX5_slip_X5_refuse
set_option maxRecDepth 20000 in
theorem ggX5_slip_X5_saveState : GoodIn wsX5_slip wsX5_saveState := goodIn_r _ [35, 36, 37, 1, 38, 39, 40, 13, 41, 42, 43, 44, 7, 45, 46, 47, 9, 48, 49, 50, 51, 52, 53, 54, 55, 56, 57, 58, 59, 60, 61, 62, 63, 64, 65, 20, 66, 67, 68, 69, 70, 22, 71, 72, 73, 74, 75, 76, 77, 78, 79, 80, 81, 82, 83, 84, 85, 90, 91, 92, 93, 94, 95, 96, 97, 105, 106, 107, 108, 109, 98, 99, 100, 101, 102, 103, 104, 110, 111, 112, 113, 114, 115] (by decide +kernel) (by decide +kernel)
set_option maxRecDepth 20000 in
theorem gX5_slip_X5_saveState : GoodIn wsX5_slip (wsV RX5 48 RX5 yX5_saveState wsX5_saveState) := goodIn_app (goodIn_of _ (by decide +kernel)) ggX5_slip_X5_saveState
set_option maxRecDepth 20000 in
theorem ggX5_slip_X3_letSlip : GoodIn wsX5_slip wsX3_letSlip := goodIn_r _ [89, 71, 72, 73, 98, 99, 100, 101, 102, 103, 104] (by decide +kernel) (by decide +kernel)
set_option maxRecDepth 20000 in
theorem gX5_slip_X3_letSlip : GoodIn wsX5_slip (wsV RX5 109 RX3 yX3_letSlip wsX3_letSlip) := goodIn_app (goodIn_of _ (by decide +kernel)) ggX5_slip_X3_letSlip
theorem dX5_slip_0 : decode cX5_slip 0 = .ok (.aload_n 0, 1) := by decide +kernel
theorem dX5_slip_1 : decode cX5_slip 1 = .ok (.getfield 12, 3) := by decide +kernel
theorem dX5_slip_4 : decode cX5_slip 4 = .ok (.iload_n 1, 1) := by decide +kernel
theorem dX5_slip_5 : decode cX5_slip 5 = .ok (.iload_n 2, 1) := by decide +kernel
theorem dX5_slip_6 : decode cX5_slip 6 = .ok (.invokevirtual 106, 3) := by decide +kernel
theorem dX5_slip_9 : decode cX5_slip 9 = .ok (.invokestatic 92, 3) := by decide +kernel
theorem dX5_slip_12 : decode cX5_slip 12 = .ok (.aload_n 0, 1) := by decide +kernel
theorem dX5_slip_13 : decode cX5_slip 13 = .ok (.invokevirtual 48, 3) := by decide +kernel
theorem dX5_slip_16 : decode cX5_slip 16 = .ok (.aload_n 0, 1) := by decide +kernel
theorem dX5_slip_17 : decode cX5_slip 17 = .ok (.getfield 12, 3) := by decide +kernel
theorem dX5_slip_20 : decode cX5_slip 20 = .ok (.getfield 80, 3) := by decide +kernel
theorem dX5_slip_23 : decode cX5_slip 23 = .ok (.iload_n 1, 1) := by decide +kernel
theorem dX5_slip_24 : decode cX5_slip 24 = .ok (.iload_n 2, 1) := by decide +kernel
theorem dX5_slip_25 : decode cX5_slip 25 = .ok (.invokevirtual 109, 3) := by decide +kernel
theorem dX5_slip_28 : decode cX5_slip 28 = .ok (.aload_n 0, 1) := by decide +kernel
theorem dX5_slip_29 : decode cX5_slip 29 = .ok (.getfield 12, 3) := by decide +kernel
theorem dX5_slip_32 : decode cX5_slip 32 = .ok (.getfield 80, 3) := by decide +kernel
theorem dX5_slip_35 : decode cX5_slip 35 = .ok (.getfield 96, 3) := by decide +kernel
theorem dX5_slip_38 : decode cX5_slip 38 = .ok (.iload_n 1, 1) := by decide +kernel
theorem dX5_slip_39 : decode cX5_slip 39 = .ok (.iaload, 1) := by decide +kernel
theorem dX5_slip_40 : decode cX5_slip 40 = .ok (.ireturn, 1) := by decide +kernel
set_option maxRecDepth 20000 in
theorem ggX5_extend_X0_extendFault : GoodIn wsX5_extend wsX0_extendFault := goodIn_r _ [8, 9, 10, 11, 12, 13, 14, 15, 16, 90, 91, 92, 93, 94, 95, 96, 97, 98] (by decide +kernel) (by decide +kernel)
set_option maxRecDepth 20000 in
theorem gX5_extend_X0_extendFault : GoodIn wsX5_extend (wsV RX5 112 RX0 yX0_extendFault wsX0_extendFault) := goodIn_app (goodIn_of _ (by decide +kernel)) ggX5_extend_X0_extendFault
set_option maxRecDepth 20000 in
theorem ggX5_extend_X5_refuse : GoodIn wsX5_extend wsX5_refuse := goodIn_ca (goodIn_ca (goodIn_ca (goodIn_r _ [19, 20, 21, 22, 23, 24, 25] (by decide +kernel) (by decide +kernel)) (goodIn_sub (fun _ h => List.mem_cons_of_mem _ (List.mem_append_left _ (List.mem_append_left _ (List.mem_append_right _ h)))) (by decide +kernel))) (goodIn_sub (fun _ h => List.mem_cons_of_mem _ (List.mem_append_left _ (List.mem_append_right _ h))) (by decide +kernel))) (goodIn_sub (fun _ h => List.mem_cons_of_mem _ (List.mem_append_right _ h)) (by decide +kernel))
set_option maxRecDepth 20000 in
theorem gX5_extend_X5_refuse : GoodIn wsX5_extend (va_wsS RX5 92 yX5_refuse wsX5_refuse) := goodIn_app (goodIn_of _ (by decide +kernel)) ggX5_extend_X5_refuse
set_option maxRecDepth 20000 in
theorem ggX5_extend_X5_saveState : GoodIn wsX5_extend wsX5_saveState := goodIn_r _ [29, 30, 31, 1, 32, 33, 34, 13, 35, 36, 37, 38, 7, 39, 9, 40, 41, 42, 43, 44, 45, 46, 47, 48, 49, 50, 51, 52, 53, 54, 55, 56, 57, 58, 59, 60, 61, 62, 63, 64, 65, 66, 67, 68, 69, 70, 71, 72, 73, 74, 75, 76, 77, 78, 79, 80, 81, 86, 87, 88, 89, 90, 91, 92, 93, 94, 95, 96, 97, 98, 99, 100, 101, 102, 103, 104, 105, 106, 107, 108, 109, 110, 111] (by decide +kernel) (by decide +kernel)
set_option maxRecDepth 20000 in
theorem gX5_extend_X5_saveState : GoodIn wsX5_extend (wsV RX5 48 RX5 yX5_saveState wsX5_saveState) := goodIn_app (goodIn_of _ (by decide +kernel)) ggX5_extend_X5_saveState
set_option maxRecDepth 20000 in
theorem ggX5_extend_X4_moveEnd : GoodIn wsX5_extend wsX4_moveEnd := goodIn_r _ [85, 54, 55, 94, 95, 96, 97, 98] (by decide +kernel) (by decide +kernel)
set_option maxRecDepth 20000 in
theorem gX5_extend_X4_moveEnd : GoodIn wsX5_extend (wsV RX5 115 RX4 yX4_moveEnd wsX4_moveEnd) := goodIn_app (goodIn_of _ (by decide +kernel)) ggX5_extend_X4_moveEnd
theorem dX5_extend_0 : decode cX5_extend 0 = .ok (.aload_n 0, 1) := by decide +kernel
theorem dX5_extend_1 : decode cX5_extend 1 = .ok (.getfield 12, 3) := by decide +kernel
theorem dX5_extend_4 : decode cX5_extend 4 = .ok (.iload_n 1, 1) := by decide +kernel
theorem dX5_extend_5 : decode cX5_extend 5 = .ok (.iload_n 2, 1) := by decide +kernel
theorem dX5_extend_6 : decode cX5_extend 6 = .ok (.invokevirtual 112, 3) := by decide +kernel
theorem dX5_extend_9 : decode cX5_extend 9 = .ok (.invokestatic 92, 3) := by decide +kernel
theorem dX5_extend_12 : decode cX5_extend 12 = .ok (.aload_n 0, 1) := by decide +kernel
theorem dX5_extend_13 : decode cX5_extend 13 = .ok (.invokevirtual 48, 3) := by decide +kernel
theorem dX5_extend_16 : decode cX5_extend 16 = .ok (.aload_n 0, 1) := by decide +kernel
theorem dX5_extend_17 : decode cX5_extend 17 = .ok (.getfield 12, 3) := by decide +kernel
theorem dX5_extend_20 : decode cX5_extend 20 = .ok (.getfield 35, 3) := by decide +kernel
theorem dX5_extend_23 : decode cX5_extend 23 = .ok (.iload_n 1, 1) := by decide +kernel
theorem dX5_extend_24 : decode cX5_extend 24 = .ok (.iload_n 2, 1) := by decide +kernel
theorem dX5_extend_25 : decode cX5_extend 25 = .ok (.invokevirtual 115, 3) := by decide +kernel
theorem dX5_extend_28 : decode cX5_extend 28 = .ok (.aload_n 0, 1) := by decide +kernel
theorem dX5_extend_29 : decode cX5_extend 29 = .ok (.getfield 12, 3) := by decide +kernel
theorem dX5_extend_32 : decode cX5_extend 32 = .ok (.getfield 35, 3) := by decide +kernel
theorem dX5_extend_35 : decode cX5_extend 35 = .ok (.getfield 118, 3) := by decide +kernel
theorem dX5_extend_38 : decode cX5_extend 38 = .ok (.iload_n 1, 1) := by decide +kernel
theorem dX5_extend_39 : decode cX5_extend 39 = .ok (.iaload, 1) := by decide +kernel
theorem dX5_extend_40 : decode cX5_extend 40 = .ok (.ireturn, 1) := by decide +kernel
set_option maxRecDepth 20000 in
theorem ggX5_addShim_X0_shimFault : GoodIn wsX5_addShim wsX0_shimFault := goodIn_r _ [7, 8, 9, 10, 11, 12, 13, 14, 15, 16, 17, 89, 90, 91, 92, 93, 94, 95, 96, 97, 98, 99, 100, 101, 102, 103] (by decide +kernel) (by decide +kernel)
set_option maxRecDepth 20000 in
theorem gX5_addShim_X0_shimFault : GoodIn wsX5_addShim (wsV RX5 121 RX0 yX0_shimFault wsX0_shimFault) := goodIn_app (goodIn_of _ (by decide +kernel)) ggX5_addShim_X0_shimFault
set_option maxRecDepth 20000 in
theorem ggX5_addShim_X5_refuse : GoodIn wsX5_addShim wsX5_refuse := goodIn_ca (goodIn_ca (goodIn_ca (goodIn_r _ [20, 21, 22, 23, 24, 25, 26] (by decide +kernel) (by decide +kernel)) (goodIn_sub (fun _ h => List.mem_cons_of_mem _ (List.mem_append_left _ (List.mem_append_left _ (List.mem_append_right _ h)))) (by decide +kernel))) (goodIn_sub (fun _ h => List.mem_cons_of_mem _ (List.mem_append_left _ (List.mem_append_right _ h))) (by decide +kernel))) (goodIn_sub (fun _ h => List.mem_cons_of_mem _ (List.mem_append_right _ h)) (by decide +kernel))
set_option maxRecDepth 20000 in
theorem gX5_addShim_X5_refuse : GoodIn wsX5_addShim (va_wsS RX5 92 yX5_refuse wsX5_refuse) := goodIn_app (goodIn_of _ (by decide +kernel)) ggX5_addShim_X5_refuse
set_option maxRecDepth 20000 in
theorem ggX5_addShim_X5_saveState : GoodIn wsX5_addShim wsX5_saveState := goodIn_r _ [30, 31, 32, 1, 33, 34, 35, 14, 36, 37, 38, 39, 6, 40, 9, 8, 41, 11, 42, 43, 44, 45, 46, 47, 48, 49, 50, 51, 52, 53, 54, 55, 56, 57, 58, 59, 60, 61, 62, 63, 64, 65, 66, 67, 68, 69, 70, 71, 72, 73, 74, 75, 76, 77, 78, 79, 80, 85, 86, 87, 88, 89, 90, 91, 92, 93, 94, 95, 96, 97, 104, 105, 106, 107, 108, 109, 110, 98, 99, 100, 101, 102, 103] (by decide +kernel) (by decide +kernel)
set_option maxRecDepth 20000 in
theorem gX5_addShim_X5_saveState : GoodIn wsX5_addShim (wsV RX5 48 RX5 yX5_saveState wsX5_saveState) := goodIn_app (goodIn_of _ (by decide +kernel)) ggX5_addShim_X5_saveState
set_option maxRecDepth 20000 in
theorem ggX5_addShim_X2_addRow : GoodIn wsX5_addShim wsX2_addRow := goodIn_r _ [84, 74, 75, 77, 78, 79, 80, 98, 99, 100, 101, 102, 103] (by decide +kernel) (by decide +kernel)
set_option maxRecDepth 20000 in
theorem gX5_addShim_X2_addRow : GoodIn wsX5_addShim (wsV RX5 129 RX2 yX2_addRow wsX2_addRow) := goodIn_app (goodIn_of _ (by decide +kernel)) ggX5_addShim_X2_addRow
theorem dX5_addShim_0 : decode cX5_addShim 0 = .ok (.aload_n 0, 1) := by decide +kernel
theorem dX5_addShim_1 : decode cX5_addShim 1 = .ok (.getfield 12, 3) := by decide +kernel
theorem dX5_addShim_4 : decode cX5_addShim 4 = .ok (.iload_n 1, 1) := by decide +kernel
theorem dX5_addShim_5 : decode cX5_addShim 5 = .ok (.iload_n 2, 1) := by decide +kernel
theorem dX5_addShim_6 : decode cX5_addShim 6 = .ok (.iload_n 3, 1) := by decide +kernel
theorem dX5_addShim_7 : decode cX5_addShim 7 = .ok (.iload 4, 2) := by decide +kernel
theorem dX5_addShim_9 : decode cX5_addShim 9 = .ok (.iload 5, 2) := by decide +kernel
theorem dX5_addShim_11 : decode cX5_addShim 11 = .ok (.invokevirtual 121, 3) := by decide +kernel
theorem dX5_addShim_14 : decode cX5_addShim 14 = .ok (.invokestatic 92, 3) := by decide +kernel
theorem dX5_addShim_17 : decode cX5_addShim 17 = .ok (.aload_n 0, 1) := by decide +kernel
theorem dX5_addShim_18 : decode cX5_addShim 18 = .ok (.invokevirtual 48, 3) := by decide +kernel
theorem dX5_addShim_21 : decode cX5_addShim 21 = .ok (.aload_n 0, 1) := by decide +kernel
theorem dX5_addShim_22 : decode cX5_addShim 22 = .ok (.getfield 12, 3) := by decide +kernel
theorem dX5_addShim_25 : decode cX5_addShim 25 = .ok (.getfield 125, 3) := by decide +kernel
theorem dX5_addShim_28 : decode cX5_addShim 28 = .ok (.iload_n 1, 1) := by decide +kernel
theorem dX5_addShim_29 : decode cX5_addShim 29 = .ok (.iload_n 2, 1) := by decide +kernel
theorem dX5_addShim_30 : decode cX5_addShim 30 = .ok (.iload_n 3, 1) := by decide +kernel
theorem dX5_addShim_31 : decode cX5_addShim 31 = .ok (.iload 4, 2) := by decide +kernel
theorem dX5_addShim_33 : decode cX5_addShim 33 = .ok (.iload 5, 2) := by decide +kernel
theorem dX5_addShim_35 : decode cX5_addShim 35 = .ok (.invokevirtual 129, 3) := by decide +kernel
theorem dX5_addShim_38 : decode cX5_addShim 38 = .ok (.ireturn, 1) := by decide +kernel
set_option maxRecDepth 20000 in
theorem ggX5_dropShim_X0_dropFault : GoodIn wsX5_dropShim wsX0_dropFault := goodIn_r _ [8, 9, 10, 11, 12, 13, 87, 88, 89, 90, 91, 92, 93, 94, 95, 96] (by decide +kernel) (by decide +kernel)
set_option maxRecDepth 20000 in
theorem gX5_dropShim_X0_dropFault : GoodIn wsX5_dropShim (wsV RX5 133 RX0 yX0_dropFault wsX0_dropFault) := goodIn_app (goodIn_of _ (by decide +kernel)) ggX5_dropShim_X0_dropFault
set_option maxRecDepth 20000 in
theorem ggX5_dropShim_X5_refuse : GoodIn wsX5_dropShim wsX5_refuse := goodIn_ca (goodIn_ca (goodIn_ca (goodIn_r _ [16, 17, 18, 19, 20, 21, 22] (by decide +kernel) (by decide +kernel)) (goodIn_sub (fun _ h => List.mem_cons_of_mem _ (List.mem_append_left _ (List.mem_append_left _ (List.mem_append_right _ h)))) (by decide +kernel))) (goodIn_sub (fun _ h => List.mem_cons_of_mem _ (List.mem_append_left _ (List.mem_append_right _ h))) (by decide +kernel))) (goodIn_sub (fun _ h => List.mem_cons_of_mem _ (List.mem_append_right _ h)) (by decide +kernel))
set_option maxRecDepth 20000 in
theorem gX5_dropShim_X5_refuse : GoodIn wsX5_dropShim (va_wsS RX5 92 yX5_refuse wsX5_refuse) := goodIn_app (goodIn_of _ (by decide +kernel)) ggX5_dropShim_X5_refuse
set_option maxRecDepth 20000 in
theorem ggX5_dropShim_X5_saveState : GoodIn wsX5_dropShim wsX5_saveState := goodIn_r _ [26, 27, 28, 1, 29, 30, 31, 12, 32, 33, 34, 35, 7, 36, 37, 38, 39, 9, 40, 41, 42, 43, 44, 45, 46, 47, 48, 49, 50, 51, 52, 53, 54, 55, 56, 57, 58, 59, 60, 61, 62, 63, 64, 65, 66, 67, 68, 69, 70, 71, 72, 73, 74, 75, 76, 77, 78, 83, 84, 85, 86, 87, 88, 89, 90, 97, 98, 99, 100, 101, 102, 103, 104, 105, 106, 107, 108, 91, 92, 93, 94, 95, 96] (by decide +kernel) (by decide +kernel)
set_option maxRecDepth 20000 in
theorem gX5_dropShim_X5_saveState : GoodIn wsX5_dropShim (wsV RX5 48 RX5 yX5_saveState wsX5_saveState) := goodIn_app (goodIn_of _ (by decide +kernel)) ggX5_dropShim_X5_saveState
set_option maxRecDepth 20000 in
theorem ggX5_dropShim_X2_remove : GoodIn wsX5_dropShim wsX2_remove := goodIn_r _ [82, 72, 73, 75, 76, 77, 78, 91, 92, 93, 94, 95, 96] (by decide +kernel) (by decide +kernel)
set_option maxRecDepth 20000 in
theorem gX5_dropShim_X2_remove : GoodIn wsX5_dropShim (wsV RX5 136 RX2 yX2_remove wsX2_remove) := goodIn_app (goodIn_of _ (by decide +kernel)) ggX5_dropShim_X2_remove
theorem dX5_dropShim_0 : decode cX5_dropShim 0 = .ok (.aload_n 0, 1) := by decide +kernel
theorem dX5_dropShim_1 : decode cX5_dropShim 1 = .ok (.getfield 12, 3) := by decide +kernel
theorem dX5_dropShim_4 : decode cX5_dropShim 4 = .ok (.iload_n 1, 1) := by decide +kernel
theorem dX5_dropShim_5 : decode cX5_dropShim 5 = .ok (.invokevirtual 133, 3) := by decide +kernel
theorem dX5_dropShim_8 : decode cX5_dropShim 8 = .ok (.invokestatic 92, 3) := by decide +kernel
theorem dX5_dropShim_11 : decode cX5_dropShim 11 = .ok (.aload_n 0, 1) := by decide +kernel
theorem dX5_dropShim_12 : decode cX5_dropShim 12 = .ok (.invokevirtual 48, 3) := by decide +kernel
theorem dX5_dropShim_15 : decode cX5_dropShim 15 = .ok (.aload_n 0, 1) := by decide +kernel
theorem dX5_dropShim_16 : decode cX5_dropShim 16 = .ok (.getfield 12, 3) := by decide +kernel
theorem dX5_dropShim_19 : decode cX5_dropShim 19 = .ok (.getfield 125, 3) := by decide +kernel
theorem dX5_dropShim_22 : decode cX5_dropShim 22 = .ok (.iload_n 1, 1) := by decide +kernel
theorem dX5_dropShim_23 : decode cX5_dropShim 23 = .ok (.invokevirtual 136, 3) := by decide +kernel
theorem dX5_dropShim_26 : decode cX5_dropShim 26 = .ok (.aload_n 0, 1) := by decide +kernel
theorem dX5_dropShim_27 : decode cX5_dropShim 27 = .ok (.getfield 12, 3) := by decide +kernel
theorem dX5_dropShim_30 : decode cX5_dropShim 30 = .ok (.getfield 125, 3) := by decide +kernel
theorem dX5_dropShim_33 : decode cX5_dropShim 33 = .ok (.getfield 139, 3) := by decide +kernel
theorem dX5_dropShim_36 : decode cX5_dropShim 36 = .ok (.ireturn, 1) := by decide +kernel
set_option maxRecDepth 20000 in
theorem ggX5_version_X5_requireThere : GoodIn wsX5_version wsX5_requireThere := goodIn_ca (goodIn_r _ [7, 8, 9, 10, 11, 6, 12] (by decide +kernel) (by decide +kernel)) (goodIn_sub (fun _ h => List.mem_cons_of_mem _ (List.mem_append_left _ (List.mem_append_right _ h))) (by decide +kernel))
set_option maxRecDepth 20000 in
theorem gX5_version_X5_requireThere : GoodIn wsX5_version (va_wsS RX5 66 yX5_requireThere wsX5_requireThere) := goodIn_app (goodIn_of _ (by decide +kernel)) ggX5_version_X5_requireThere
set_option maxRecDepth 20000 in
theorem ggX5_version_X5_requireWithin : GoodIn wsX5_version wsX5_requireWithin := goodIn_ca (goodIn_r _ [15, 16, 17, 18, 19, 6, 20] (by decide +kernel) (by decide +kernel)) (goodIn_sub (fun _ h => List.mem_cons_of_mem _ (List.mem_append_right _ h)) (by decide +kernel))
set_option maxRecDepth 20000 in
theorem gX5_version_X5_requireWithin : GoodIn wsX5_version (va_wsS RX5 31 yX5_requireWithin wsX5_requireWithin) := goodIn_app (goodIn_of _ (by decide +kernel)) ggX5_version_X5_requireWithin
set_option maxRecDepth 20000 in
theorem ggX5_version_X0_ofVersion : GoodIn wsX5_version wsX0_ofVersion := goodIn_r _ [25, 26, 27, 28, 29, 30, 31, 32, 33, 34, 35, 36, 37, 38, 43, 44, 45, 46, 47, 48, 49, 50, 51, 52, 53, 54, 55, 56, 57] (by decide +kernel) (by decide +kernel)
set_option maxRecDepth 20000 in
theorem gX5_version_X0_ofVersion : GoodIn wsX5_version (wsV RX5 140 RX0 yX0_ofVersion wsX0_ofVersion) := goodIn_app (goodIn_of _ (by decide +kernel)) ggX5_version_X0_ofVersion
theorem dX5_version_0 : decode cX5_version 0 = .ok (.iload_n 1, 1) := by decide +kernel
theorem dX5_version_1 : decode cX5_version 1 = .ok (.aload_n 0, 1) := by decide +kernel
theorem dX5_version_2 : decode cX5_version 2 = .ok (.getfield 12, 3) := by decide +kernel
theorem dX5_version_5 : decode cX5_version 5 = .ok (.getfield 35, 3) := by decide +kernel
theorem dX5_version_8 : decode cX5_version 8 = .ok (.getfield 39, 3) := by decide +kernel
theorem dX5_version_11 : decode cX5_version 11 = .ok (.invokestatic 66, 3) := by decide +kernel
theorem dX5_version_14 : decode cX5_version 14 = .ok (.iload_n 2, 1) := by decide +kernel
theorem dX5_version_15 : decode cX5_version 15 = .ok (.iconst 0, 1) := by decide +kernel
theorem dX5_version_16 : decode cX5_version 16 = .ok (.iconst 4, 1) := by decide +kernel
theorem dX5_version_17 : decode cX5_version 17 = .ok (.invokestatic 31, 3) := by decide +kernel
theorem dX5_version_20 : decode cX5_version 20 = .ok (.aload_n 0, 1) := by decide +kernel
theorem dX5_version_21 : decode cX5_version 21 = .ok (.getfield 12, 3) := by decide +kernel
theorem dX5_version_24 : decode cX5_version 24 = .ok (.iload_n 1, 1) := by decide +kernel
theorem dX5_version_25 : decode cX5_version 25 = .ok (.iload_n 2, 1) := by decide +kernel
theorem dX5_version_26 : decode cX5_version 26 = .ok (.invokevirtual 140, 3) := by decide +kernel
theorem dX5_version_29 : decode cX5_version 29 = .ok (.ireturn, 1) := by decide +kernel
set_option maxRecDepth 20000 in
theorem ggX5_user_X5_requireThere : GoodIn wsX5_user wsX5_requireThere := goodIn_ca (goodIn_r _ [7, 8, 9, 10, 11, 6, 12] (by decide +kernel) (by decide +kernel)) (goodIn_sub (fun _ h => List.mem_cons_of_mem _ (List.mem_append_left _ (List.mem_append_right _ h))) (by decide +kernel))
set_option maxRecDepth 20000 in
theorem gX5_user_X5_requireThere : GoodIn wsX5_user (va_wsS RX5 66 yX5_requireThere wsX5_requireThere) := goodIn_app (goodIn_of _ (by decide +kernel)) ggX5_user_X5_requireThere
set_option maxRecDepth 20000 in
theorem ggX5_user_X5_requireWithin : GoodIn wsX5_user wsX5_requireWithin := goodIn_ca (goodIn_r _ [15, 16, 17, 18, 19, 6, 20] (by decide +kernel) (by decide +kernel)) (goodIn_sub (fun _ h => List.mem_cons_of_mem _ (List.mem_append_right _ h)) (by decide +kernel))
set_option maxRecDepth 20000 in
theorem gX5_user_X5_requireWithin : GoodIn wsX5_user (va_wsS RX5 31 yX5_requireWithin wsX5_requireWithin) := goodIn_app (goodIn_of _ (by decide +kernel)) ggX5_user_X5_requireWithin
set_option maxRecDepth 20000 in
theorem ggX5_user_X3_about : GoodIn wsX5_user wsX3_about := goodIn_r _ [25, 26, 27, 28, 29, 30, 31, 40, 41, 42, 43, 44, 45, 46] (by decide +kernel) (by decide +kernel)
set_option maxRecDepth 20000 in
theorem gX5_user_X3_about : GoodIn wsX5_user (wsV RX5 143 RX3 yX3_about wsX3_about) := goodIn_app (goodIn_of _ (by decide +kernel)) ggX5_user_X3_about
theorem dX5_user_0 : decode cX5_user 0 = .ok (.iload_n 1, 1) := by decide +kernel
theorem dX5_user_1 : decode cX5_user 1 = .ok (.aload_n 0, 1) := by decide +kernel
theorem dX5_user_2 : decode cX5_user 2 = .ok (.getfield 12, 3) := by decide +kernel
theorem dX5_user_5 : decode cX5_user 5 = .ok (.getfield 80, 3) := by decide +kernel
theorem dX5_user_8 : decode cX5_user 8 = .ok (.getfield 84, 3) := by decide +kernel
theorem dX5_user_11 : decode cX5_user 11 = .ok (.invokestatic 66, 3) := by decide +kernel
theorem dX5_user_14 : decode cX5_user 14 = .ok (.iload_n 2, 1) := by decide +kernel
theorem dX5_user_15 : decode cX5_user 15 = .ok (.iconst 0, 1) := by decide +kernel
theorem dX5_user_16 : decode cX5_user 16 = .ok (.iconst 5, 1) := by decide +kernel
theorem dX5_user_17 : decode cX5_user 17 = .ok (.invokestatic 31, 3) := by decide +kernel
theorem dX5_user_20 : decode cX5_user 20 = .ok (.aload_n 0, 1) := by decide +kernel
theorem dX5_user_21 : decode cX5_user 21 = .ok (.getfield 12, 3) := by decide +kernel
theorem dX5_user_24 : decode cX5_user 24 = .ok (.getfield 80, 3) := by decide +kernel
theorem dX5_user_27 : decode cX5_user 27 = .ok (.iload_n 1, 1) := by decide +kernel
theorem dX5_user_28 : decode cX5_user 28 = .ok (.iload_n 2, 1) := by decide +kernel
theorem dX5_user_29 : decode cX5_user 29 = .ok (.invokevirtual 143, 3) := by decide +kernel
theorem dX5_user_32 : decode cX5_user 32 = .ok (.ireturn, 1) := by decide +kernel
set_option maxRecDepth 20000 in
theorem ggX5_shim_X5_requireThere : GoodIn wsX5_shim wsX5_requireThere := goodIn_ca (goodIn_r _ [7, 8, 9, 10, 11, 6, 12] (by decide +kernel) (by decide +kernel)) (goodIn_sub (fun _ h => List.mem_cons_of_mem _ (List.mem_append_left _ (List.mem_append_right _ h))) (by decide +kernel))
set_option maxRecDepth 20000 in
theorem gX5_shim_X5_requireThere : GoodIn wsX5_shim (va_wsS RX5 66 yX5_requireThere wsX5_requireThere) := goodIn_app (goodIn_of _ (by decide +kernel)) ggX5_shim_X5_requireThere
set_option maxRecDepth 20000 in
theorem ggX5_shim_X5_requireWithin : GoodIn wsX5_shim wsX5_requireWithin := goodIn_ca (goodIn_r _ [15, 16, 17, 18, 19, 6, 20] (by decide +kernel) (by decide +kernel)) (goodIn_sub (fun _ h => List.mem_cons_of_mem _ (List.mem_append_right _ h)) (by decide +kernel))
set_option maxRecDepth 20000 in
theorem gX5_shim_X5_requireWithin : GoodIn wsX5_shim (va_wsS RX5 31 yX5_requireWithin wsX5_requireWithin) := goodIn_app (goodIn_of _ (by decide +kernel)) ggX5_shim_X5_requireWithin
set_option maxRecDepth 20000 in
theorem ggX5_shim_X2_about : GoodIn wsX5_shim wsX2_about := goodIn_r _ [25, 26, 27, 28, 29, 30, 39, 40, 41, 42, 43, 44] (by decide +kernel) (by decide +kernel)
set_option maxRecDepth 20000 in
theorem gX5_shim_X2_about : GoodIn wsX5_shim (wsV RX5 146 RX2 yX2_about wsX2_about) := goodIn_app (goodIn_of _ (by decide +kernel)) ggX5_shim_X2_about
theorem dX5_shim_0 : decode cX5_shim 0 = .ok (.iload_n 1, 1) := by decide +kernel
theorem dX5_shim_1 : decode cX5_shim 1 = .ok (.aload_n 0, 1) := by decide +kernel
theorem dX5_shim_2 : decode cX5_shim 2 = .ok (.getfield 12, 3) := by decide +kernel
theorem dX5_shim_5 : decode cX5_shim 5 = .ok (.getfield 125, 3) := by decide +kernel
theorem dX5_shim_8 : decode cX5_shim 8 = .ok (.getfield 139, 3) := by decide +kernel
theorem dX5_shim_11 : decode cX5_shim 11 = .ok (.invokestatic 66, 3) := by decide +kernel
theorem dX5_shim_14 : decode cX5_shim 14 = .ok (.iload_n 2, 1) := by decide +kernel
theorem dX5_shim_15 : decode cX5_shim 15 = .ok (.iconst 0, 1) := by decide +kernel
theorem dX5_shim_16 : decode cX5_shim 16 = .ok (.iconst 4, 1) := by decide +kernel
theorem dX5_shim_17 : decode cX5_shim 17 = .ok (.invokestatic 31, 3) := by decide +kernel
theorem dX5_shim_20 : decode cX5_shim 20 = .ok (.aload_n 0, 1) := by decide +kernel
theorem dX5_shim_21 : decode cX5_shim 21 = .ok (.getfield 12, 3) := by decide +kernel
theorem dX5_shim_24 : decode cX5_shim 24 = .ok (.getfield 125, 3) := by decide +kernel
theorem dX5_shim_27 : decode cX5_shim 27 = .ok (.iload_n 1, 1) := by decide +kernel
theorem dX5_shim_28 : decode cX5_shim 28 = .ok (.iload_n 2, 1) := by decide +kernel
theorem dX5_shim_29 : decode cX5_shim 29 = .ok (.invokevirtual 146, 3) := by decide +kernel
theorem dX5_shim_32 : decode cX5_shim 32 = .ok (.ireturn, 1) := by decide +kernel
set_option maxRecDepth 20000 in
theorem ggX5_versionOn_X5_requireUserAndDay : GoodIn wsX5_versionOn wsX5_requireUserAndDay := goodIn_ca (goodIn_ca (goodIn_r _ [7, 1, 2, 8, 9, 10, 6, 11, 12, 13, 14, 15, 16, 17, 18, 19, 20, 21, 22, 23, 24, 25, 26, 27, 40, 41, 42, 43, 44, 45, 46, 47, 48, 49, 50, 51, 52, 53, 54] (by decide +kernel) (by decide +kernel)) (goodIn_sub (fun _ h => List.mem_cons_of_mem _ (List.mem_append_left _ (List.mem_append_right _ h))) (by decide +kernel))) (goodIn_sub (fun _ h => List.mem_cons_of_mem _ (List.mem_append_right _ h)) (by decide +kernel))
set_option maxRecDepth 20000 in
theorem gX5_versionOn_X5_requireUserAndDay : GoodIn wsX5_versionOn (wsV RX5 147 RX5 yX5_requireUserAndDay wsX5_requireUserAndDay) := goodIn_app (goodIn_of _ (by decide +kernel)) ggX5_versionOn_X5_requireUserAndDay
set_option maxRecDepth 20000 in
theorem ggX5_versionOn_X3_placeOn : GoodIn wsX5_versionOn wsX3_placeOn := goodIn_r _ [32, 33, 34, 35, 36, 37, 38, 31, 39, 48, 49, 50, 51, 52, 53, 54] (by decide +kernel) (by decide +kernel)
set_option maxRecDepth 20000 in
theorem gX5_versionOn_X3_placeOn : GoodIn wsX5_versionOn (wsV RX5 150 RX3 yX3_placeOn wsX3_placeOn) := goodIn_app (goodIn_of _ (by decide +kernel)) ggX5_versionOn_X3_placeOn
theorem dX5_versionOn_0 : decode cX5_versionOn 0 = .ok (.aload_n 0, 1) := by decide +kernel
theorem dX5_versionOn_1 : decode cX5_versionOn 1 = .ok (.iload_n 1, 1) := by decide +kernel
theorem dX5_versionOn_2 : decode cX5_versionOn 2 = .ok (.iload_n 2, 1) := by decide +kernel
theorem dX5_versionOn_3 : decode cX5_versionOn 3 = .ok (.invokevirtual 147, 3) := by decide +kernel
theorem dX5_versionOn_6 : decode cX5_versionOn 6 = .ok (.aload_n 0, 1) := by decide +kernel
theorem dX5_versionOn_7 : decode cX5_versionOn 7 = .ok (.getfield 12, 3) := by decide +kernel
theorem dX5_versionOn_10 : decode cX5_versionOn 10 = .ok (.getfield 80, 3) := by decide +kernel
theorem dX5_versionOn_13 : decode cX5_versionOn 13 = .ok (.iload_n 1, 1) := by decide +kernel
theorem dX5_versionOn_14 : decode cX5_versionOn 14 = .ok (.iload_n 2, 1) := by decide +kernel
theorem dX5_versionOn_15 : decode cX5_versionOn 15 = .ok (.invokevirtual 150, 3) := by decide +kernel
theorem dX5_versionOn_18 : decode cX5_versionOn 18 = .ok (.ireturn, 1) := by decide +kernel
set_option maxRecDepth 20000 in
theorem ggX5_served_X5_requireThere : GoodIn wsX5_served wsX5_requireThere := goodIn_ca (goodIn_r _ [8, 9, 10, 11, 12, 7, 13] (by decide +kernel) (by decide +kernel)) (goodIn_sub (fun _ h => List.mem_cons_of_mem _ (List.mem_append_left _ (List.mem_append_right _ h))) (by decide +kernel))
set_option maxRecDepth 20000 in
theorem gX5_served_X5_requireThere : GoodIn wsX5_served (va_wsS RX5 66 yX5_requireThere wsX5_requireThere) := goodIn_app (goodIn_of _ (by decide +kernel)) ggX5_served_X5_requireThere
set_option maxRecDepth 20000 in
theorem ggX5_served_X5_requireDay : GoodIn wsX5_served wsX5_requireDay := goodIn_ca (goodIn_r _ [16, 17, 18, 7, 19, 20, 21, 22, 23, 24] (by decide +kernel) (by decide +kernel)) (goodIn_sub (fun _ h => List.mem_cons_of_mem _ (List.mem_append_right _ h)) (by decide +kernel))
set_option maxRecDepth 20000 in
theorem gX5_served_X5_requireDay : GoodIn wsX5_served (va_wsS RX5 153 yX5_requireDay wsX5_requireDay) := goodIn_app (goodIn_of _ (by decide +kernel)) ggX5_served_X5_requireDay
set_option maxRecDepth 20000 in
theorem ggX5_served_X0_howServed : GoodIn wsX5_served wsX0_howServed := goodIn_r _ [29, 30, 31, 32, 33, 34, 35, 36, 37, 7, 38, 39, 40, 41, 42, 43, 44, 45, 46, 47, 48, 49, 50, 51, 52, 53, 54, 55, 56, 57, 58, 59, 60, 61, 62, 63, 64, 69, 70, 71, 72, 73, 74, 75, 76, 77, 78, 79, 80, 81, 82, 83, 84, 85, 86, 87, 88, 89, 90] (by decide +kernel) (by decide +kernel)
set_option maxRecDepth 20000 in
theorem gX5_served_X0_howServed : GoodIn wsX5_served (wsV RX5 156 RX0 yX0_howServed wsX0_howServed) := goodIn_app (goodIn_of _ (by decide +kernel)) ggX5_served_X0_howServed
theorem dX5_served_0 : decode cX5_served 0 = .ok (.iload_n 1, 1) := by decide +kernel
theorem dX5_served_1 : decode cX5_served 1 = .ok (.aload_n 0, 1) := by decide +kernel
theorem dX5_served_2 : decode cX5_served 2 = .ok (.getfield 12, 3) := by decide +kernel
theorem dX5_served_5 : decode cX5_served 5 = .ok (.getfield 80, 3) := by decide +kernel
theorem dX5_served_8 : decode cX5_served 8 = .ok (.getfield 84, 3) := by decide +kernel
theorem dX5_served_11 : decode cX5_served 11 = .ok (.invokestatic 66, 3) := by decide +kernel
theorem dX5_served_14 : decode cX5_served 14 = .ok (.iload_n 2, 1) := by decide +kernel
theorem dX5_served_15 : decode cX5_served 15 = .ok (.aload_n 0, 1) := by decide +kernel
theorem dX5_served_16 : decode cX5_served 16 = .ok (.getfield 12, 3) := by decide +kernel
theorem dX5_served_19 : decode cX5_served 19 = .ok (.getfield 59, 3) := by decide +kernel
theorem dX5_served_22 : decode cX5_served 22 = .ok (.invokestatic 66, 3) := by decide +kernel
theorem dX5_served_25 : decode cX5_served 25 = .ok (.iload_n 3, 1) := by decide +kernel
theorem dX5_served_26 : decode cX5_served 26 = .ok (.invokestatic 153, 3) := by decide +kernel
theorem dX5_served_29 : decode cX5_served 29 = .ok (.aload_n 0, 1) := by decide +kernel
theorem dX5_served_30 : decode cX5_served 30 = .ok (.getfield 12, 3) := by decide +kernel
theorem dX5_served_33 : decode cX5_served 33 = .ok (.iload_n 1, 1) := by decide +kernel
theorem dX5_served_34 : decode cX5_served 34 = .ok (.iload_n 2, 1) := by decide +kernel
theorem dX5_served_35 : decode cX5_served 35 = .ok (.iload_n 3, 1) := by decide +kernel
theorem dX5_served_36 : decode cX5_served 36 = .ok (.invokevirtual 156, 3) := by decide +kernel
theorem dX5_served_39 : decode cX5_served 39 = .ok (.ireturn, 1) := by decide +kernel
set_option maxRecDepth 20000 in
theorem ggX5_missing_X5_requireUserAndDay : GoodIn wsX5_missing wsX5_requireUserAndDay := goodIn_ca (goodIn_ca (goodIn_r _ [6, 1, 7, 8, 9, 10, 5, 11, 12, 13, 14, 15, 16, 17, 18, 19, 20, 21, 22, 23, 24, 25, 26, 27, 75, 76, 77, 78, 79, 80, 81, 82, 83, 84, 85, 86, 87, 88, 89] (by decide +kernel) (by decide +kernel)) (goodIn_sub (fun _ h => List.mem_cons_of_mem _ (List.mem_append_left _ (List.mem_append_right _ h))) (by decide +kernel))) (goodIn_sub (fun _ h => List.mem_cons_of_mem _ (List.mem_append_right _ h)) (by decide +kernel))
set_option maxRecDepth 20000 in
theorem gX5_missing_X5_requireUserAndDay : GoodIn wsX5_missing (wsV RX5 147 RX5 yX5_requireUserAndDay wsX5_requireUserAndDay) := goodIn_app (goodIn_of _ (by decide +kernel)) ggX5_missing_X5_requireUserAndDay
set_option maxRecDepth 20000 in
theorem ggX5_missing_X0_unservedUses : GoodIn wsX5_missing wsX0_unservedUses := goodIn_r _ [32, 33, 34, 35, 36, 37, 38, 39, 40, 41, 42, 43, 44, 45, 46, 47, 48, 49, 31, 50, 51, 52, 53, 54, 55, 56, 57, 58, 59, 60, 61, 62, 63, 64, 65, 66, 67, 68, 69, 70, 71, 72, 73, 74, 79, 80, 81, 82, 83, 84, 85, 86, 87, 88, 89, 90, 91, 92, 93, 94, 95, 96, 97, 98, 99, 100] (by decide +kernel) (by decide +kernel)
set_option maxRecDepth 20000 in
theorem gX5_missing_X0_unservedUses : GoodIn wsX5_missing (wsV RX5 159 RX0 yX0_unservedUses wsX0_unservedUses) := goodIn_app (goodIn_of _ (by decide +kernel)) ggX5_missing_X0_unservedUses
theorem dX5_missing_0 : decode cX5_missing 0 = .ok (.aload_n 0, 1) := by decide +kernel
theorem dX5_missing_1 : decode cX5_missing 1 = .ok (.iload_n 1, 1) := by decide +kernel
theorem dX5_missing_2 : decode cX5_missing 2 = .ok (.iload_n 2, 1) := by decide +kernel
theorem dX5_missing_3 : decode cX5_missing 3 = .ok (.invokevirtual 147, 3) := by decide +kernel
theorem dX5_missing_6 : decode cX5_missing 6 = .ok (.aload_n 0, 1) := by decide +kernel
theorem dX5_missing_7 : decode cX5_missing 7 = .ok (.getfield 12, 3) := by decide +kernel
theorem dX5_missing_10 : decode cX5_missing 10 = .ok (.iload_n 1, 1) := by decide +kernel
theorem dX5_missing_11 : decode cX5_missing 11 = .ok (.iload_n 2, 1) := by decide +kernel
theorem dX5_missing_12 : decode cX5_missing 12 = .ok (.invokevirtual 159, 3) := by decide +kernel
theorem dX5_missing_15 : decode cX5_missing 15 = .ok (.ireturn, 1) := by decide +kernel
set_option maxRecDepth 20000 in
theorem ggX5_stranded_X5_requireDay : GoodIn wsX5_stranded wsX5_requireDay := goodIn_ca (goodIn_r _ [5, 6, 7, 4, 8, 9, 10, 11, 12, 13] (by decide +kernel) (by decide +kernel)) (goodIn_sub (fun _ h => List.mem_cons_of_mem _ (List.mem_append_right _ h)) (by decide +kernel))
set_option maxRecDepth 20000 in
theorem gX5_stranded_X5_requireDay : GoodIn wsX5_stranded (va_wsS RX5 153 yX5_requireDay wsX5_requireDay) := goodIn_app (goodIn_of _ (by decide +kernel)) ggX5_stranded_X5_requireDay
set_option maxRecDepth 20000 in
theorem ggX5_stranded_X0_strandedUsers : GoodIn wsX5_stranded wsX0_strandedUsers := goodIn_r _ [18, 19, 20, 21, 22, 23, 17, 24, 25, 26, 27, 28, 29, 30, 31, 32, 33, 34, 35, 36, 37, 38, 39, 40, 41, 42, 43, 44, 45, 46, 47, 48, 49, 50, 51, 52, 53, 54, 55, 56, 57, 58, 59, 60, 61, 62, 63, 64, 65, 70, 71, 72, 73, 74, 75, 76, 77, 78, 79, 80, 81, 82, 83, 84, 85, 86, 87, 88, 89, 90, 91] (by decide +kernel) (by decide +kernel)
set_option maxRecDepth 20000 in
theorem gX5_stranded_X0_strandedUsers : GoodIn wsX5_stranded (wsV RX5 162 RX0 yX0_strandedUsers wsX0_strandedUsers) := goodIn_app (goodIn_of _ (by decide +kernel)) ggX5_stranded_X0_strandedUsers
theorem dX5_stranded_0 : decode cX5_stranded 0 = .ok (.iload_n 1, 1) := by decide +kernel
theorem dX5_stranded_1 : decode cX5_stranded 1 = .ok (.invokestatic 153, 3) := by decide +kernel
theorem dX5_stranded_4 : decode cX5_stranded 4 = .ok (.aload_n 0, 1) := by decide +kernel
theorem dX5_stranded_5 : decode cX5_stranded 5 = .ok (.getfield 12, 3) := by decide +kernel
theorem dX5_stranded_8 : decode cX5_stranded 8 = .ok (.iload_n 1, 1) := by decide +kernel
theorem dX5_stranded_9 : decode cX5_stranded 9 = .ok (.invokevirtual 162, 3) := by decide +kernel
theorem dX5_stranded_12 : decode cX5_stranded 12 = .ok (.ireturn, 1) := by decide +kernel
set_option maxRecDepth 20000 in
theorem ggX5_costs_X5_requireDays : GoodIn wsX5_costs wsX5_requireDays := goodIn_ca (goodIn_r _ [5, 6, 7, 4, 8, 9, 10, 11, 12, 13, 14, 15, 16] (by decide +kernel) (by decide +kernel)) (goodIn_sub (fun _ h => List.mem_cons_of_mem _ (List.mem_append_right _ h)) (by decide +kernel))
set_option maxRecDepth 20000 in
theorem gX5_costs_X5_requireDays : GoodIn wsX5_costs (va_wsS RX5 165 yX5_requireDays wsX5_requireDays) := goodIn_app (goodIn_of _ (by decide +kernel)) ggX5_costs_X5_requireDays
set_option maxRecDepth 20000 in
theorem ggX5_costs_X0_costOfAll : GoodIn wsX5_costs wsX0_costOfAll := goodIn_r _ [21, 22, 23, 24, 25, 26, 27, 28, 29, 30, 31, 20, 32, 33, 34, 35, 36, 37, 38, 39, 40, 41, 42, 43, 44, 45, 46, 47, 48, 49, 50, 51, 52, 53, 54, 55, 56, 57, 58, 59, 60, 61, 62, 63, 64, 65, 66, 67, 68, 69, 70, 71, 72, 73, 74, 75, 76, 77, 4, 78, 79, 80, 81, 82, 83, 84, 85, 86, 87, 88, 89, 90, 91, 92, 93, 98, 99, 100, 101, 102, 103, 104, 105, 106, 107, 108, 109, 110, 111, 112, 113, 114, 115, 116, 117, 118, 119] (by decide +kernel) (by decide +kernel)
set_option maxRecDepth 20000 in
theorem gX5_costs_X0_costOfAll : GoodIn wsX5_costs (wsV RX5 168 RX0 yX0_costOfAll wsX0_costOfAll) := goodIn_app (goodIn_of _ (by decide +kernel)) ggX5_costs_X0_costOfAll
theorem dX5_costs_0 : decode cX5_costs 0 = .ok (.iload_n 1, 1) := by decide +kernel
theorem dX5_costs_1 : decode cX5_costs 1 = .ok (.iload_n 2, 1) := by decide +kernel
theorem dX5_costs_2 : decode cX5_costs 2 = .ok (.invokestatic 165, 3) := by decide +kernel
theorem dX5_costs_5 : decode cX5_costs 5 = .ok (.aload_n 0, 1) := by decide +kernel
theorem dX5_costs_6 : decode cX5_costs 6 = .ok (.getfield 12, 3) := by decide +kernel
theorem dX5_costs_9 : decode cX5_costs 9 = .ok (.iload_n 1, 1) := by decide +kernel
theorem dX5_costs_10 : decode cX5_costs 10 = .ok (.iload_n 2, 1) := by decide +kernel
theorem dX5_costs_11 : decode cX5_costs 11 = .ok (.invokevirtual 168, 3) := by decide +kernel
theorem dX5_costs_14 : decode cX5_costs 14 = .ok (.ireturn, 1) := by decide +kernel
set_option maxRecDepth 20000 in
theorem ggX5_value_X5_requireWithin : GoodIn wsX5_value wsX5_requireWithin := goodIn_ca (goodIn_r _ [5, 6, 7, 8, 9, 4, 10] (by decide +kernel) (by decide +kernel)) (goodIn_sub (fun _ h => List.mem_cons_of_mem _ (List.mem_append_right _ h)) (by decide +kernel))
set_option maxRecDepth 20000 in
theorem gX5_value_X5_requireWithin : GoodIn wsX5_value (va_wsS RX5 31 yX5_requireWithin wsX5_requireWithin) := goodIn_app (goodIn_of _ (by decide +kernel)) ggX5_value_X5_requireWithin
set_option maxRecDepth 20000 in
theorem ggX5_value_X0_number : GoodIn wsX5_value wsX0_number := goodIn_r _ [15, 16, 17, 18, 19, 20, 21, 22, 23, 24, 25, 26, 27, 28, 29, 30, 31, 32, 33, 34, 35, 36, 37, 38, 39, 40, 41, 42, 43, 44, 45, 46, 47, 48, 49, 50, 51, 52, 53, 14, 54, 55, 56, 57, 58, 59, 60, 61, 62, 63, 64, 65, 66, 67, 68, 69, 70, 71, 72, 73, 74, 75, 76, 77, 78, 79, 80, 81, 82, 83, 84, 85, 86, 87, 88, 89, 90, 91, 92, 93, 94, 95, 96, 97, 98, 99, 100, 101, 102, 103, 104, 105, 106, 107, 108, 109, 110, 111, 116, 117, 118, 119, 120, 121, 122, 123, 124, 125, 126, 127, 128, 129, 130, 131, 132, 133, 134, 135, 136, 137] (by decide +kernel) (by decide +kernel)
set_option maxRecDepth 20000 in
theorem gX5_value_X0_number : GoodIn wsX5_value (wsV RX5 171 RX0 yX0_number wsX0_number) := goodIn_app (goodIn_of _ (by decide +kernel)) ggX5_value_X0_number
theorem dX5_value_0 : decode cX5_value 0 = .ok (.iload_n 1, 1) := by decide +kernel
theorem dX5_value_1 : decode cX5_value 1 = .ok (.iconst 0, 1) := by decide +kernel
theorem dX5_value_2 : decode cX5_value 2 = .ok (.bipush 7, 2) := by decide +kernel
theorem dX5_value_4 : decode cX5_value 4 = .ok (.invokestatic 31, 3) := by decide +kernel
theorem dX5_value_7 : decode cX5_value 7 = .ok (.aload_n 0, 1) := by decide +kernel
theorem dX5_value_8 : decode cX5_value 8 = .ok (.getfield 12, 3) := by decide +kernel
theorem dX5_value_11 : decode cX5_value 11 = .ok (.iload_n 1, 1) := by decide +kernel
theorem dX5_value_12 : decode cX5_value 12 = .ok (.invokevirtual 171, 3) := by decide +kernel
theorem dX5_value_15 : decode cX5_value 15 = .ok (.ireturn, 1) := by decide +kernel
set_option maxRecDepth 20000 in
theorem ggX5_firstStranded_X5_requireUserAndDay : GoodIn wsX5_firstStranded wsX5_requireUserAndDay := goodIn_ca (goodIn_ca (goodIn_r _ [6, 1, 7, 8, 9, 10, 5, 11, 12, 13, 14, 15, 16, 17, 18, 19, 20, 21, 22, 23, 24, 25, 26, 27, 98, 99, 100, 101, 102, 103, 104, 105, 106, 107, 108, 109, 110, 111, 112] (by decide +kernel) (by decide +kernel)) (goodIn_sub (fun _ h => List.mem_cons_of_mem _ (List.mem_append_left _ (List.mem_append_right _ h))) (by decide +kernel))) (goodIn_sub (fun _ h => List.mem_cons_of_mem _ (List.mem_append_right _ h)) (by decide +kernel))
set_option maxRecDepth 20000 in
theorem gX5_firstStranded_X5_requireUserAndDay : GoodIn wsX5_firstStranded (wsV RX5 147 RX5 yX5_requireUserAndDay wsX5_requireUserAndDay) := goodIn_app (goodIn_of _ (by decide +kernel)) ggX5_firstStranded_X5_requireUserAndDay
set_option maxRecDepth 20000 in
theorem ggX5_firstStranded_X0_firstDayStranded : GoodIn wsX5_firstStranded wsX0_firstDayStranded := goodIn_r _ [32, 33, 34, 35, 36, 37, 38, 39, 31, 40, 41, 42, 43, 44, 45, 46, 47, 48, 49, 50, 51, 52, 53, 54, 55, 56, 57, 58, 59, 60, 61, 62, 63, 64, 65, 66, 67, 68, 69, 70, 71, 72, 73, 74, 75, 76, 77, 78, 79, 80, 81, 82, 83, 84, 85, 86, 87, 88, 89, 90, 91, 92, 93, 94, 95, 96, 97, 102, 103, 104, 105, 106, 107, 108, 109, 110, 111, 112, 113, 114, 115, 116, 117, 118, 119, 120, 121, 122, 123] (by decide +kernel) (by decide +kernel)
set_option maxRecDepth 20000 in
theorem gX5_firstStranded_X0_firstDayStranded : GoodIn wsX5_firstStranded (wsV RX5 174 RX0 yX0_firstDayStranded wsX0_firstDayStranded) := goodIn_app (goodIn_of _ (by decide +kernel)) ggX5_firstStranded_X0_firstDayStranded
theorem dX5_firstStranded_0 : decode cX5_firstStranded 0 = .ok (.aload_n 0, 1) := by decide +kernel
theorem dX5_firstStranded_1 : decode cX5_firstStranded 1 = .ok (.iload_n 1, 1) := by decide +kernel
theorem dX5_firstStranded_2 : decode cX5_firstStranded 2 = .ok (.iload_n 2, 1) := by decide +kernel
theorem dX5_firstStranded_3 : decode cX5_firstStranded 3 = .ok (.invokevirtual 147, 3) := by decide +kernel
theorem dX5_firstStranded_6 : decode cX5_firstStranded 6 = .ok (.aload_n 0, 1) := by decide +kernel
theorem dX5_firstStranded_7 : decode cX5_firstStranded 7 = .ok (.getfield 12, 3) := by decide +kernel
theorem dX5_firstStranded_10 : decode cX5_firstStranded 10 = .ok (.iload_n 1, 1) := by decide +kernel
theorem dX5_firstStranded_11 : decode cX5_firstStranded 11 = .ok (.iload_n 2, 1) := by decide +kernel
theorem dX5_firstStranded_12 : decode cX5_firstStranded 12 = .ok (.invokevirtual 174, 3) := by decide +kernel
theorem dX5_firstStranded_15 : decode cX5_firstStranded 15 = .ok (.ireturn, 1) := by decide +kernel
set_option maxRecDepth 20000 in
theorem ggX5_latestMove_X5_requireThere : GoodIn wsX5_latestMove wsX5_requireThere := goodIn_ca (goodIn_r _ [9, 10, 11, 12, 13, 8, 14] (by decide +kernel) (by decide +kernel)) (goodIn_sub (fun _ h => List.mem_cons_of_mem _ (List.mem_append_left _ (List.mem_append_right _ h))) (by decide +kernel))
set_option maxRecDepth 20000 in
theorem gX5_latestMove_X5_requireThere : GoodIn wsX5_latestMove (va_wsS RX5 66 yX5_requireThere wsX5_requireThere) := goodIn_app (goodIn_of _ (by decide +kernel)) ggX5_latestMove_X5_requireThere
set_option maxRecDepth 20000 in
theorem ggX5_latestMove_X5_requireDay : GoodIn wsX5_latestMove wsX5_requireDay := goodIn_ca (goodIn_r _ [17, 18, 19, 8, 20, 21, 22, 23, 24, 25] (by decide +kernel) (by decide +kernel)) (goodIn_sub (fun _ h => List.mem_cons_of_mem _ (List.mem_append_right _ h)) (by decide +kernel))
set_option maxRecDepth 20000 in
theorem gX5_latestMove_X5_requireDay : GoodIn wsX5_latestMove (va_wsS RX5 153 yX5_requireDay wsX5_requireDay) := goodIn_app (goodIn_of _ (by decide +kernel)) ggX5_latestMove_X5_requireDay
set_option maxRecDepth 20000 in
theorem ggX5_latestMove_X0_latestPledge : GoodIn wsX5_latestMove wsX0_latestPledge := goodIn_r _ [30, 31, 32, 33, 34, 35, 36, 29, 37, 38, 39, 40, 41, 42, 43, 44, 45, 46, 47, 48, 49, 50, 51, 52, 53, 54, 55, 56, 57, 58, 59, 60, 61, 62, 63, 64, 65, 66, 67, 68, 69, 70, 71, 72, 73, 74, 75, 76, 77, 78, 79, 80, 81, 82, 83, 84, 85, 86, 87, 88, 93, 94, 95, 96, 97, 98, 99, 100, 101, 102, 103, 104, 105, 106, 107, 108, 109, 110, 111, 112, 113, 114] (by decide +kernel) (by decide +kernel)
set_option maxRecDepth 20000 in
theorem gX5_latestMove_X0_latestPledge : GoodIn wsX5_latestMove (wsV RX5 177 RX0 yX0_latestPledge wsX0_latestPledge) := goodIn_app (goodIn_of _ (by decide +kernel)) ggX5_latestMove_X0_latestPledge
theorem dX5_latestMove_0 : decode cX5_latestMove 0 = .ok (.iload_n 1, 1) := by decide +kernel
theorem dX5_latestMove_1 : decode cX5_latestMove 1 = .ok (.aload_n 0, 1) := by decide +kernel
theorem dX5_latestMove_2 : decode cX5_latestMove 2 = .ok (.getfield 12, 3) := by decide +kernel
theorem dX5_latestMove_5 : decode cX5_latestMove 5 = .ok (.getfield 80, 3) := by decide +kernel
theorem dX5_latestMove_8 : decode cX5_latestMove 8 = .ok (.getfield 84, 3) := by decide +kernel
theorem dX5_latestMove_11 : decode cX5_latestMove 11 = .ok (.invokestatic 66, 3) := by decide +kernel
theorem dX5_latestMove_14 : decode cX5_latestMove 14 = .ok (.iload_n 2, 1) := by decide +kernel
theorem dX5_latestMove_15 : decode cX5_latestMove 15 = .ok (.aload_n 0, 1) := by decide +kernel
theorem dX5_latestMove_16 : decode cX5_latestMove 16 = .ok (.getfield 12, 3) := by decide +kernel
theorem dX5_latestMove_19 : decode cX5_latestMove 19 = .ok (.getfield 35, 3) := by decide +kernel
theorem dX5_latestMove_22 : decode cX5_latestMove 22 = .ok (.getfield 39, 3) := by decide +kernel
theorem dX5_latestMove_25 : decode cX5_latestMove 25 = .ok (.invokestatic 66, 3) := by decide +kernel
theorem dX5_latestMove_28 : decode cX5_latestMove 28 = .ok (.iload_n 3, 1) := by decide +kernel
theorem dX5_latestMove_29 : decode cX5_latestMove 29 = .ok (.invokestatic 153, 3) := by decide +kernel
theorem dX5_latestMove_32 : decode cX5_latestMove 32 = .ok (.aload_n 0, 1) := by decide +kernel
theorem dX5_latestMove_33 : decode cX5_latestMove 33 = .ok (.getfield 12, 3) := by decide +kernel
theorem dX5_latestMove_36 : decode cX5_latestMove 36 = .ok (.iload_n 1, 1) := by decide +kernel
theorem dX5_latestMove_37 : decode cX5_latestMove 37 = .ok (.iload_n 2, 1) := by decide +kernel
theorem dX5_latestMove_38 : decode cX5_latestMove 38 = .ok (.iload_n 3, 1) := by decide +kernel
theorem dX5_latestMove_39 : decode cX5_latestMove 39 = .ok (.invokevirtual 177, 3) := by decide +kernel
theorem dX5_latestMove_42 : decode cX5_latestMove 42 = .ok (.ireturn, 1) := by decide +kernel
set_option maxRecDepth 20000 in
theorem ggX5_bestVersion_X5_requireUserAndDay : GoodIn wsX5_bestVersion wsX5_requireUserAndDay := goodIn_ca (goodIn_ca (goodIn_r _ [8, 1, 2, 9, 10, 11, 7, 12, 13, 14, 15, 16, 17, 18, 19, 20, 21, 22, 23, 24, 25, 26, 27, 28, 70, 71, 72, 73, 74, 75, 76, 77, 78, 79, 80, 81, 82, 83, 84] (by decide +kernel) (by decide +kernel)) (goodIn_sub (fun _ h => List.mem_cons_of_mem _ (List.mem_append_left _ (List.mem_append_right _ h))) (by decide +kernel))) (goodIn_sub (fun _ h => List.mem_cons_of_mem _ (List.mem_append_right _ h)) (by decide +kernel))
set_option maxRecDepth 20000 in
theorem gX5_bestVersion_X5_requireUserAndDay : GoodIn wsX5_bestVersion (wsV RX5 147 RX5 yX5_requireUserAndDay wsX5_requireUserAndDay) := goodIn_app (goodIn_of _ (by decide +kernel)) ggX5_bestVersion_X5_requireUserAndDay
set_option maxRecDepth 20000 in
theorem ggX5_bestVersion_X0_versionServingMost : GoodIn wsX5_bestVersion wsX0_versionServingMost := goodIn_r _ [33, 34, 35, 36, 37, 38, 32, 39, 40, 41, 42, 43, 44, 45, 46, 47, 48, 49, 50, 51, 52, 53, 54, 55, 56, 57, 58, 59, 60, 61, 62, 63, 64, 65, 66, 67, 68, 69, 74, 75, 76, 77, 85, 86, 87, 88, 89, 90, 91, 92, 93, 94, 95] (by decide +kernel) (by decide +kernel)
set_option maxRecDepth 20000 in
theorem gX5_bestVersion_X0_versionServingMost : GoodIn wsX5_bestVersion (wsV RX5 183 RX0 yX0_versionServingMost wsX0_versionServingMost) := goodIn_app (goodIn_of _ (by decide +kernel)) ggX5_bestVersion_X0_versionServingMost
theorem dX5_bestVersion_0 : decode cX5_bestVersion 0 = .ok (.aload_n 0, 1) := by decide +kernel
theorem dX5_bestVersion_1 : decode cX5_bestVersion 1 = .ok (.iload_n 1, 1) := by decide +kernel
theorem dX5_bestVersion_2 : decode cX5_bestVersion 2 = .ok (.iload_n 2, 1) := by decide +kernel
theorem dX5_bestVersion_3 : decode cX5_bestVersion 3 = .ok (.invokevirtual 147, 3) := by decide +kernel
theorem dX5_bestVersion_6 : decode cX5_bestVersion 6 = .ok (.aload_n 0, 1) := by decide +kernel
theorem dX5_bestVersion_7 : decode cX5_bestVersion 7 = .ok (.getfield 12, 3) := by decide +kernel
theorem dX5_bestVersion_10 : decode cX5_bestVersion 10 = .ok (.aload_n 0, 1) := by decide +kernel
theorem dX5_bestVersion_11 : decode cX5_bestVersion 11 = .ok (.getfield 12, 3) := by decide +kernel
theorem dX5_bestVersion_14 : decode cX5_bestVersion 14 = .ok (.getfield 80, 3) := by decide +kernel
theorem dX5_bestVersion_17 : decode cX5_bestVersion 17 = .ok (.getfield 180, 3) := by decide +kernel
theorem dX5_bestVersion_20 : decode cX5_bestVersion 20 = .ok (.iload_n 1, 1) := by decide +kernel
theorem dX5_bestVersion_21 : decode cX5_bestVersion 21 = .ok (.iaload, 1) := by decide +kernel
theorem dX5_bestVersion_22 : decode cX5_bestVersion 22 = .ok (.iload_n 2, 1) := by decide +kernel
theorem dX5_bestVersion_23 : decode cX5_bestVersion 23 = .ok (.invokevirtual 183, 3) := by decide +kernel
theorem dX5_bestVersion_26 : decode cX5_bestVersion 26 = .ok (.ireturn, 1) := by decide +kernel
set_option maxRecDepth 20000 in
theorem ggX5_cheapest_X5_requireThere : GoodIn wsX5_cheapest wsX5_requireThere := goodIn_ca (goodIn_r _ [8, 9, 10, 11, 12, 7, 13] (by decide +kernel) (by decide +kernel)) (goodIn_sub (fun _ h => List.mem_cons_of_mem _ (List.mem_append_left _ (List.mem_append_right _ h))) (by decide +kernel))
set_option maxRecDepth 20000 in
theorem gX5_cheapest_X5_requireThere : GoodIn wsX5_cheapest (va_wsS RX5 66 yX5_requireThere wsX5_requireThere) := goodIn_app (goodIn_of _ (by decide +kernel)) ggX5_cheapest_X5_requireThere
set_option maxRecDepth 20000 in
theorem ggX5_cheapest_X5_requireDays : GoodIn wsX5_cheapest wsX5_requireDays := goodIn_ca (goodIn_r _ [16, 17, 18, 7, 19, 20, 21, 22, 23, 24, 25, 26, 27] (by decide +kernel) (by decide +kernel)) (goodIn_sub (fun _ h => List.mem_cons_of_mem _ (List.mem_append_right _ h)) (by decide +kernel))
set_option maxRecDepth 20000 in
theorem gX5_cheapest_X5_requireDays : GoodIn wsX5_cheapest (va_wsS RX5 165 yX5_requireDays wsX5_requireDays) := goodIn_app (goodIn_of _ (by decide +kernel)) ggX5_cheapest_X5_requireDays
set_option maxRecDepth 20000 in
theorem ggX5_cheapest_X0_versionCostingLeast : GoodIn wsX5_cheapest wsX0_versionCostingLeast := goodIn_r _ [32, 33, 34, 35, 36, 37, 31, 38, 39, 40, 41, 42, 43, 44, 45, 46, 47, 48, 49, 50, 51, 52, 53, 54, 55, 56, 57, 58, 59, 60, 61, 62, 63, 64, 65, 66, 67, 68, 69, 70, 71, 72, 73, 74, 75, 76, 77, 78, 79, 80, 81, 82, 83, 84, 85, 86, 87, 88, 89, 90, 91, 92, 93, 94, 95, 96, 97, 7, 98, 99, 100, 101, 102, 103, 108, 109, 110, 111, 119, 120, 121, 122, 123, 124, 125, 126, 127, 128, 129, 112, 113, 114, 115, 116, 117, 118] (by decide +kernel) (by decide +kernel)
set_option maxRecDepth 20000 in
theorem gX5_cheapest_X0_versionCostingLeast : GoodIn wsX5_cheapest (wsV RX5 186 RX0 yX0_versionCostingLeast wsX0_versionCostingLeast) := goodIn_app (goodIn_of _ (by decide +kernel)) ggX5_cheapest_X0_versionCostingLeast
theorem dX5_cheapest_0 : decode cX5_cheapest 0 = .ok (.iload_n 1, 1) := by decide +kernel
theorem dX5_cheapest_1 : decode cX5_cheapest 1 = .ok (.aload_n 0, 1) := by decide +kernel
theorem dX5_cheapest_2 : decode cX5_cheapest 2 = .ok (.getfield 12, 3) := by decide +kernel
theorem dX5_cheapest_5 : decode cX5_cheapest 5 = .ok (.getfield 80, 3) := by decide +kernel
theorem dX5_cheapest_8 : decode cX5_cheapest 8 = .ok (.getfield 84, 3) := by decide +kernel
theorem dX5_cheapest_11 : decode cX5_cheapest 11 = .ok (.invokestatic 66, 3) := by decide +kernel
theorem dX5_cheapest_14 : decode cX5_cheapest 14 = .ok (.iload_n 2, 1) := by decide +kernel
theorem dX5_cheapest_15 : decode cX5_cheapest 15 = .ok (.iload_n 3, 1) := by decide +kernel
theorem dX5_cheapest_16 : decode cX5_cheapest 16 = .ok (.invokestatic 165, 3) := by decide +kernel
theorem dX5_cheapest_19 : decode cX5_cheapest 19 = .ok (.aload_n 0, 1) := by decide +kernel
theorem dX5_cheapest_20 : decode cX5_cheapest 20 = .ok (.getfield 12, 3) := by decide +kernel
theorem dX5_cheapest_23 : decode cX5_cheapest 23 = .ok (.aload_n 0, 1) := by decide +kernel
theorem dX5_cheapest_24 : decode cX5_cheapest 24 = .ok (.getfield 12, 3) := by decide +kernel
theorem dX5_cheapest_27 : decode cX5_cheapest 27 = .ok (.getfield 80, 3) := by decide +kernel
theorem dX5_cheapest_30 : decode cX5_cheapest 30 = .ok (.getfield 180, 3) := by decide +kernel
theorem dX5_cheapest_33 : decode cX5_cheapest 33 = .ok (.iload_n 1, 1) := by decide +kernel
theorem dX5_cheapest_34 : decode cX5_cheapest 34 = .ok (.iaload, 1) := by decide +kernel
theorem dX5_cheapest_35 : decode cX5_cheapest 35 = .ok (.iload_n 2, 1) := by decide +kernel
theorem dX5_cheapest_36 : decode cX5_cheapest 36 = .ok (.iload_n 3, 1) := by decide +kernel
theorem dX5_cheapest_37 : decode cX5_cheapest 37 = .ok (.invokevirtual 186, 3) := by decide +kernel
theorem dX5_cheapest_40 : decode cX5_cheapest 40 = .ok (.ireturn, 1) := by decide +kernel
set_option maxRecDepth 20000 in
theorem ggX5_shimsNeeded_X5_requireDay : GoodIn wsX5_shimsNeeded wsX5_requireDay := goodIn_ca (goodIn_r _ [5, 6, 7, 4, 8, 9, 10, 11, 12, 13] (by decide +kernel) (by decide +kernel)) (goodIn_sub (fun _ h => List.mem_cons_of_mem _ (List.mem_append_right _ h)) (by decide +kernel))
set_option maxRecDepth 20000 in
theorem gX5_shimsNeeded_X5_requireDay : GoodIn wsX5_shimsNeeded (va_wsS RX5 153 yX5_requireDay wsX5_requireDay) := goodIn_app (goodIn_of _ (by decide +kernel)) ggX5_shimsNeeded_X5_requireDay
set_option maxRecDepth 20000 in
theorem ggX5_shimsNeeded_X0_pairsLacking : GoodIn wsX5_shimsNeeded wsX0_pairsLacking := goodIn_r _ [18, 19, 20, 21, 22, 23, 24, 25, 26, 27, 28, 29, 30, 17, 31, 32, 33, 34, 35, 36, 37, 38, 39, 40, 41, 42, 43, 44, 45, 46, 47, 48, 49, 50, 51, 52, 53, 54, 55, 56, 57, 58, 59, 60, 61, 62, 63, 64, 65, 66, 67, 68, 69, 70, 71, 72, 73, 74, 75, 76, 77, 82, 83, 84, 85, 86, 87, 88, 89, 90, 91, 92, 93, 94, 95, 96, 97, 98, 99, 100, 101, 102, 103] (by decide +kernel) (by decide +kernel)
set_option maxRecDepth 20000 in
theorem gX5_shimsNeeded_X0_pairsLacking : GoodIn wsX5_shimsNeeded (wsV RX5 189 RX0 yX0_pairsLacking wsX0_pairsLacking) := goodIn_app (goodIn_of _ (by decide +kernel)) ggX5_shimsNeeded_X0_pairsLacking
theorem dX5_shimsNeeded_0 : decode cX5_shimsNeeded 0 = .ok (.iload_n 1, 1) := by decide +kernel
theorem dX5_shimsNeeded_1 : decode cX5_shimsNeeded 1 = .ok (.invokestatic 153, 3) := by decide +kernel
theorem dX5_shimsNeeded_4 : decode cX5_shimsNeeded 4 = .ok (.aload_n 0, 1) := by decide +kernel
theorem dX5_shimsNeeded_5 : decode cX5_shimsNeeded 5 = .ok (.getfield 12, 3) := by decide +kernel
theorem dX5_shimsNeeded_8 : decode cX5_shimsNeeded 8 = .ok (.iload_n 1, 1) := by decide +kernel
theorem dX5_shimsNeeded_9 : decode cX5_shimsNeeded 9 = .ok (.invokevirtual 189, 3) := by decide +kernel
theorem dX5_shimsNeeded_12 : decode cX5_shimsNeeded 12 = .ok (.ireturn, 1) := by decide +kernel
set_option maxRecDepth 20000 in
theorem ggX5_share_X5_requireDay : GoodIn wsX5_share wsX5_requireDay := goodIn_ca (goodIn_r _ [6, 7, 8, 5, 9, 10, 11, 12, 13, 14] (by decide +kernel) (by decide +kernel)) (goodIn_sub (fun _ h => List.mem_cons_of_mem _ (List.mem_append_right _ h)) (by decide +kernel))
set_option maxRecDepth 20000 in
theorem gX5_share_X5_requireDay : GoodIn wsX5_share (va_wsS RX5 153 yX5_requireDay wsX5_requireDay) := goodIn_app (goodIn_of _ (by decide +kernel)) ggX5_share_X5_requireDay
set_option maxRecDepth 20000 in
theorem ggX5_share_X3_useCount : GoodIn wsX5_share wsX3_useCount := goodIn_r _ [19, 20, 21, 22, 23, 24, 25, 26, 27, 28, 89, 90, 91, 92, 93, 94, 95] (by decide +kernel) (by decide +kernel)
set_option maxRecDepth 20000 in
theorem gX5_share_X3_useCount : GoodIn wsX5_share (wsV RX5 192 RX3 yX3_useCount wsX3_useCount) := goodIn_app (goodIn_of _ (by decide +kernel)) ggX5_share_X3_useCount
set_option maxRecDepth 20000 in
theorem ggX5_share_X0_unservedCount : GoodIn wsX5_share wsX0_unservedCount := goodIn_r _ [33, 34, 35, 36, 37, 38, 32, 39, 40, 41, 42, 43, 18, 44, 45, 46, 47, 48, 49, 50, 51, 52, 53, 54, 55, 56, 57, 58, 59, 60, 61, 62, 63, 64, 65, 66, 67, 68, 69, 70, 71, 72, 73, 74, 75, 76, 77, 78, 79, 80, 23, 24, 25, 26, 27, 28, 85, 86, 87, 88, 89, 90, 91, 92, 93, 94, 95, 96, 97, 98, 99, 100, 101, 102, 103, 104, 105, 106] (by decide +kernel) (by decide +kernel)
set_option maxRecDepth 20000 in
theorem gX5_share_X0_unservedCount : GoodIn wsX5_share (wsV RX5 196 RX0 yX0_unservedCount wsX0_unservedCount) := goodIn_app (goodIn_of _ (by decide +kernel)) ggX5_share_X0_unservedCount
theorem dX5_share_0 : decode cX5_share 0 = .ok (.iload_n 1, 1) := by decide +kernel
theorem dX5_share_1 : decode cX5_share 1 = .ok (.invokestatic 153, 3) := by decide +kernel
theorem dX5_share_4 : decode cX5_share 4 = .ok (.aload_n 0, 1) := by decide +kernel
theorem dX5_share_5 : decode cX5_share 5 = .ok (.getfield 12, 3) := by decide +kernel
theorem dX5_share_8 : decode cX5_share 8 = .ok (.getfield 80, 3) := by decide +kernel
theorem dX5_share_11 : decode cX5_share 11 = .ok (.invokevirtual 192, 3) := by decide +kernel
theorem dX5_share_14 : decode cX5_share 14 = .ok (.istore_n 2, 1) := by decide +kernel
theorem dX5_share_15 : decode cX5_share 15 = .ok (.iload_n 2, 1) := by decide +kernel
theorem dX5_share_16 : decode cX5_share 16 = .ok (.ifCond .ne 5, 3) := by decide +kernel
theorem dX5_share_19 : decode cX5_share 19 = .ok (.dconst 1, 1) := by decide +kernel
theorem dX5_share_20 : decode cX5_share 20 = .ok (.dreturn, 1) := by decide +kernel
theorem dX5_share_21 : decode cX5_share 21 = .ok (.iload_n 2, 1) := by decide +kernel
theorem dX5_share_22 : decode cX5_share 22 = .ok (.aload_n 0, 1) := by decide +kernel
theorem dX5_share_23 : decode cX5_share 23 = .ok (.getfield 12, 3) := by decide +kernel
theorem dX5_share_26 : decode cX5_share 26 = .ok (.iload_n 1, 1) := by decide +kernel
theorem dX5_share_27 : decode cX5_share 27 = .ok (.invokevirtual 196, 3) := by decide +kernel
theorem dX5_share_30 : decode cX5_share 30 = .ok (.isub, 1) := by decide +kernel
theorem dX5_share_31 : decode cX5_share 31 = .ok (.i2d, 1) := by decide +kernel
theorem dX5_share_32 : decode cX5_share 32 = .ok (.iload_n 2, 1) := by decide +kernel
theorem dX5_share_33 : decode cX5_share 33 = .ok (.i2d, 1) := by decide +kernel
theorem dX5_share_34 : decode cX5_share 34 = .ok (.ddiv, 1) := by decide +kernel
theorem dX5_share_35 : decode cX5_share 35 = .ok (.dreturn, 1) := by decide +kernel
set_option maxRecDepth 20000 in
theorem ggX5_undo_X5_requirePossible : GoodIn wsX5_undo wsX5_requirePossible := goodIn_ca (goodIn_r _ [7, 8, 9] (by decide +kernel) (by decide +kernel)) (goodIn_sub (fun _ h => List.mem_cons_of_mem _ (List.mem_append_right _ h)) (by decide +kernel))
set_option maxRecDepth 20000 in
theorem gX5_undo_X5_requirePossible : GoodIn wsX5_undo (va_wsS RX5 44 yX5_requirePossible wsX5_requirePossible) := goodIn_app (goodIn_of _ (by decide +kernel)) ggX5_undo_X5_requirePossible
set_option maxRecDepth 20000 in
theorem ggX5_undo_X0_copy : GoodIn wsX5_undo wsX0_copy := goodIn_r _ [14, 15, 16, 17, 18, 19, 20, 21, 22, 23, 24, 25, 26, 27, 28, 29, 30, 31, 32, 33, 34, 35, 36, 37, 38, 39, 40, 41, 42, 43, 44, 45, 46, 47, 48, 49, 50, 51, 52, 53, 54, 55, 56, 57, 62, 63, 64, 65, 66, 67, 68, 69, 70, 71, 72, 73, 74, 75, 76, 77, 78, 79, 80, 81, 82, 83] (by decide +kernel) (by decide +kernel)
set_option maxRecDepth 20000 in
theorem gX5_undo_X0_copy : GoodIn wsX5_undo (wsV RX5 218 RX0 yX0_copy wsX0_copy) := goodIn_app (goodIn_of _ (by decide +kernel)) ggX5_undo_X0_copy
theorem dX5_undo_0 : decode cX5_undo 0 = .ok (.aload_n 0, 1) := by decide +kernel
theorem dX5_undo_1 : decode cX5_undo 1 = .ok (.getfield 20, 3) := by decide +kernel
theorem dX5_undo_4 : decode cX5_undo 4 = .ok (.ifCond .le 7, 3) := by decide +kernel
theorem dX5_undo_7 : decode cX5_undo 7 = .ok (.iconst 1, 1) := by decide +kernel
theorem dX5_undo_8 : decode cX5_undo 8 = .ok (.goto 4, 3) := by decide +kernel
theorem dX5_undo_11 : decode cX5_undo 11 = .ok (.iconst 0, 1) := by decide +kernel
theorem dX5_undo_12 : decode cX5_undo 12 = .ok (.invokestatic 44, 3) := by decide +kernel
theorem dX5_undo_15 : decode cX5_undo 15 = .ok (.aload_n 0, 1) := by decide +kernel
theorem dX5_undo_16 : decode cX5_undo 16 = .ok (.dup, 1) := by decide +kernel
theorem dX5_undo_17 : decode cX5_undo 17 = .ok (.getfield 20, 3) := by decide +kernel
theorem dX5_undo_20 : decode cX5_undo 20 = .ok (.iconst 1, 1) := by decide +kernel
theorem dX5_undo_21 : decode cX5_undo 21 = .ok (.isub, 1) := by decide +kernel
theorem dX5_undo_22 : decode cX5_undo 22 = .ok (.putfield 20, 3) := by decide +kernel
theorem dX5_undo_25 : decode cX5_undo 25 = .ok (.aload_n 0, 1) := by decide +kernel
theorem dX5_undo_26 : decode cX5_undo 26 = .ok (.getfield 12, 3) := by decide +kernel
theorem dX5_undo_29 : decode cX5_undo 29 = .ok (.aload_n 0, 1) := by decide +kernel
theorem dX5_undo_30 : decode cX5_undo 30 = .ok (.getfield 16, 3) := by decide +kernel
theorem dX5_undo_33 : decode cX5_undo 33 = .ok (.aload_n 0, 1) := by decide +kernel
theorem dX5_undo_34 : decode cX5_undo 34 = .ok (.getfield 20, 3) := by decide +kernel
theorem dX5_undo_37 : decode cX5_undo 37 = .ok (.aaload, 1) := by decide +kernel
theorem dX5_undo_38 : decode cX5_undo 38 = .ok (.invokevirtual 218, 3) := by decide +kernel
theorem dX5_undo_41 : decode cX5_undo 41 = .ok (.aload_n 0, 1) := by decide +kernel
theorem dX5_undo_42 : decode cX5_undo 42 = .ok (.getfield 20, 3) := by decide +kernel
theorem dX5_undo_45 : decode cX5_undo 45 = .ok (.ireturn, 1) := by decide +kernel
theorem dX5_contains_0 : decode cX5_contains 0 = .ok (.iload_n 0, 1) := by decide +kernel
theorem dX5_contains_1 : decode cX5_contains 1 = .ok (.iload_n 1, 1) := by decide +kernel
theorem dX5_contains_2 : decode cX5_contains 2 = .ok (.ishr, 1) := by decide +kernel
theorem dX5_contains_3 : decode cX5_contains 3 = .ok (.iconst 1, 1) := by decide +kernel
theorem dX5_contains_4 : decode cX5_contains 4 = .ok (.iand, 1) := by decide +kernel
theorem dX5_contains_5 : decode cX5_contains 5 = .ok (.ifCond .eq 7, 3) := by decide +kernel
theorem dX5_contains_8 : decode cX5_contains 8 = .ok (.iconst 1, 1) := by decide +kernel
theorem dX5_contains_9 : decode cX5_contains 9 = .ok (.goto 4, 3) := by decide +kernel
theorem dX5_contains_12 : decode cX5_contains 12 = .ok (.iconst 0, 1) := by decide +kernel
theorem dX5_contains_13 : decode cX5_contains 13 = .ok (.ireturn, 1) := by decide +kernel
theorem dX5_isThere_0 : decode cX5_isThere 0 = .ok (.iload_n 0, 1) := by decide +kernel
theorem dX5_isThere_1 : decode cX5_isThere 1 = .ok (.ifCond .lt 12, 3) := by decide +kernel
theorem dX5_isThere_4 : decode cX5_isThere 4 = .ok (.iload_n 0, 1) := by decide +kernel
theorem dX5_isThere_5 : decode cX5_isThere 5 = .ok (.iload_n 1, 1) := by decide +kernel
theorem dX5_isThere_6 : decode cX5_isThere 6 = .ok (.if_icmp .ge 7, 3) := by decide +kernel
theorem dX5_isThere_9 : decode cX5_isThere 9 = .ok (.iconst 1, 1) := by decide +kernel
theorem dX5_isThere_10 : decode cX5_isThere 10 = .ok (.goto 4, 3) := by decide +kernel
theorem dX5_isThere_13 : decode cX5_isThere 13 = .ok (.iconst 0, 1) := by decide +kernel
theorem dX5_isThere_14 : decode cX5_isThere 14 = .ok (.ireturn, 1) := by decide +kernel
theorem dX5_isWithin_0 : decode cX5_isWithin 0 = .ok (.iload_n 0, 1) := by decide +kernel
theorem dX5_isWithin_1 : decode cX5_isWithin 1 = .ok (.iload_n 1, 1) := by decide +kernel
theorem dX5_isWithin_2 : decode cX5_isWithin 2 = .ok (.if_icmp .lt 12, 3) := by decide +kernel
theorem dX5_isWithin_5 : decode cX5_isWithin 5 = .ok (.iload_n 0, 1) := by decide +kernel
theorem dX5_isWithin_6 : decode cX5_isWithin 6 = .ok (.iload_n 2, 1) := by decide +kernel
theorem dX5_isWithin_7 : decode cX5_isWithin 7 = .ok (.if_icmp .gt 7, 3) := by decide +kernel
theorem dX5_isWithin_10 : decode cX5_isWithin 10 = .ok (.iconst 1, 1) := by decide +kernel
theorem dX5_isWithin_11 : decode cX5_isWithin 11 = .ok (.goto 4, 3) := by decide +kernel
theorem dX5_isWithin_14 : decode cX5_isWithin 14 = .ok (.iconst 0, 1) := by decide +kernel
theorem dX5_isWithin_15 : decode cX5_isWithin 15 = .ok (.ireturn, 1) := by decide +kernel
set_option maxRecDepth 20000 in
theorem ggX5_requireThere_X5_isThere : GoodIn wsX5_requireThere wsX5_isThere := goodIn_r _ [6] (by decide +kernel) (by decide +kernel)
set_option maxRecDepth 20000 in
theorem gX5_requireThere_X5_isThere : GoodIn wsX5_requireThere (va_wsS RX5 230 yX5_isThere wsX5_isThere) := goodIn_app (goodIn_of _ (by decide +kernel)) ggX5_requireThere_X5_isThere
theorem dX5_requireThere_0 : decode cX5_requireThere 0 = .ok (.iload_n 0, 1) := by decide +kernel
theorem dX5_requireThere_1 : decode cX5_requireThere 1 = .ok (.iload_n 1, 1) := by decide +kernel
theorem dX5_requireThere_2 : decode cX5_requireThere 2 = .ok (.invokestatic 230, 3) := by decide +kernel
theorem dX5_requireThere_5 : decode cX5_requireThere 5 = .ok (.ifCond .ne 13, 3) := by decide +kernel
theorem dX5_requireThere_8 : decode cX5_requireThere 8 = .ok (.new 233, 3) := by decide +kernel
theorem dX5_requireThere_11 : decode cX5_requireThere 11 = .ok (.dup, 1) := by decide +kernel
theorem dX5_requireThere_12 : decode cX5_requireThere 12 = .ok (.ldc 235, 2) := by decide +kernel
theorem dX5_requireThere_14 : decode cX5_requireThere 14 = .ok (.invokespecial 237, 3) := by decide +kernel
theorem dX5_requireThere_17 : decode cX5_requireThere 17 = .ok (.athrow, 1) := by decide +kernel
theorem dX5_requireThere_18 : decode cX5_requireThere 18 = .ok (.return_, 1) := by decide +kernel
set_option maxRecDepth 20000 in
theorem ggX5_requireWithin_X5_isWithin : GoodIn wsX5_requireWithin wsX5_isWithin := goodIn_r _ [6] (by decide +kernel) (by decide +kernel)
set_option maxRecDepth 20000 in
theorem gX5_requireWithin_X5_isWithin : GoodIn wsX5_requireWithin (va_wsS RX5 240 yX5_isWithin wsX5_isWithin) := goodIn_app (goodIn_of _ (by decide +kernel)) ggX5_requireWithin_X5_isWithin
theorem dX5_requireWithin_0 : decode cX5_requireWithin 0 = .ok (.iload_n 0, 1) := by decide +kernel
theorem dX5_requireWithin_1 : decode cX5_requireWithin 1 = .ok (.iload_n 1, 1) := by decide +kernel
theorem dX5_requireWithin_2 : decode cX5_requireWithin 2 = .ok (.iload_n 2, 1) := by decide +kernel
theorem dX5_requireWithin_3 : decode cX5_requireWithin 3 = .ok (.invokestatic 240, 3) := by decide +kernel
theorem dX5_requireWithin_6 : decode cX5_requireWithin 6 = .ok (.ifCond .ne 13, 3) := by decide +kernel
theorem dX5_requireWithin_9 : decode cX5_requireWithin 9 = .ok (.new 244, 3) := by decide +kernel
theorem dX5_requireWithin_12 : decode cX5_requireWithin 12 = .ok (.dup, 1) := by decide +kernel
theorem dX5_requireWithin_13 : decode cX5_requireWithin 13 = .ok (.ldc 246, 2) := by decide +kernel
theorem dX5_requireWithin_15 : decode cX5_requireWithin 15 = .ok (.invokespecial 248, 3) := by decide +kernel
theorem dX5_requireWithin_18 : decode cX5_requireWithin 18 = .ok (.athrow, 1) := by decide +kernel
theorem dX5_requireWithin_19 : decode cX5_requireWithin 19 = .ok (.return_, 1) := by decide +kernel
set_option maxRecDepth 20000 in
theorem ggX5_requireSet_X5_requireWithin : GoodIn wsX5_requireSet wsX5_requireWithin := goodIn_ca (goodIn_r _ [4, 5, 6, 7, 8, 3, 9] (by decide +kernel) (by decide +kernel)) (goodIn_sub (fun _ h => List.mem_cons_of_mem _ (List.mem_append_right _ h)) (by decide +kernel))
set_option maxRecDepth 20000 in
theorem gX5_requireSet_X5_requireWithin : GoodIn wsX5_requireSet (va_wsS RX5 31 yX5_requireWithin wsX5_requireWithin) := goodIn_app (goodIn_of _ (by decide +kernel)) ggX5_requireSet_X5_requireWithin
theorem dX5_requireSet_0 : decode cX5_requireSet 0 = .ok (.iload_n 0, 1) := by decide +kernel
theorem dX5_requireSet_1 : decode cX5_requireSet 1 = .ok (.iconst 0, 1) := by decide +kernel
theorem dX5_requireSet_2 : decode cX5_requireSet 2 = .ok (.iconst 1, 1) := by decide +kernel
theorem dX5_requireSet_3 : decode cX5_requireSet 3 = .ok (.iload_n 1, 1) := by decide +kernel
theorem dX5_requireSet_4 : decode cX5_requireSet 4 = .ok (.ishl, 1) := by decide +kernel
theorem dX5_requireSet_5 : decode cX5_requireSet 5 = .ok (.iconst 1, 1) := by decide +kernel
theorem dX5_requireSet_6 : decode cX5_requireSet 6 = .ok (.isub, 1) := by decide +kernel
theorem dX5_requireSet_7 : decode cX5_requireSet 7 = .ok (.invokestatic 31, 3) := by decide +kernel
theorem dX5_requireSet_10 : decode cX5_requireSet 10 = .ok (.return_, 1) := by decide +kernel
set_option maxRecDepth 20000 in
theorem ggX5_requireDay_X5_requireWithin : GoodIn wsX5_requireDay wsX5_requireWithin := goodIn_ca (goodIn_r _ [4, 5, 6, 7, 8, 3, 9] (by decide +kernel) (by decide +kernel)) (goodIn_sub (fun _ h => List.mem_cons_of_mem _ (List.mem_append_right _ h)) (by decide +kernel))
set_option maxRecDepth 20000 in
theorem gX5_requireDay_X5_requireWithin : GoodIn wsX5_requireDay (va_wsS RX5 31 yX5_requireWithin wsX5_requireWithin) := goodIn_app (goodIn_of _ (by decide +kernel)) ggX5_requireDay_X5_requireWithin
theorem dX5_requireDay_0 : decode cX5_requireDay 0 = .ok (.iload_n 0, 1) := by decide +kernel
theorem dX5_requireDay_1 : decode cX5_requireDay 1 = .ok (.iconst 0, 1) := by decide +kernel
theorem dX5_requireDay_2 : decode cX5_requireDay 2 = .ok (.sipush 999, 3) := by decide +kernel
theorem dX5_requireDay_5 : decode cX5_requireDay 5 = .ok (.invokestatic 31, 3) := by decide +kernel
theorem dX5_requireDay_8 : decode cX5_requireDay 8 = .ok (.return_, 1) := by decide +kernel
set_option maxRecDepth 20000 in
theorem ggX5_requireDays_X5_requireDay : GoodIn wsX5_requireDays wsX5_requireDay := goodIn_ca (goodIn_r _ [4, 5, 6, 3, 7, 8, 9, 10, 11, 12] (by decide +kernel) (by decide +kernel)) (goodIn_sub (fun _ h => List.mem_cons_of_mem _ (List.mem_append_right _ h)) (by decide +kernel))
set_option maxRecDepth 20000 in
theorem gX5_requireDays_X5_requireDay : GoodIn wsX5_requireDays (va_wsS RX5 153 yX5_requireDay wsX5_requireDay) := goodIn_app (goodIn_of _ (by decide +kernel)) ggX5_requireDays_X5_requireDay
set_option maxRecDepth 20000 in
theorem ggX5_requireDays_X5_requireWithin : GoodIn wsX5_requireDays wsX5_requireWithin := goodIn_ca (goodIn_r _ [7, 8, 9, 10, 11, 3, 12] (by decide +kernel) (by decide +kernel)) (goodIn_sub (fun _ h => List.mem_cons_of_mem _ (List.mem_append_right _ h)) (by decide +kernel))
set_option maxRecDepth 20000 in
theorem gX5_requireDays_X5_requireWithin : GoodIn wsX5_requireDays (va_wsS RX5 31 yX5_requireWithin wsX5_requireWithin) := goodIn_app (goodIn_of _ (by decide +kernel)) ggX5_requireDays_X5_requireWithin
theorem dX5_requireDays_0 : decode cX5_requireDays 0 = .ok (.iload_n 0, 1) := by decide +kernel
theorem dX5_requireDays_1 : decode cX5_requireDays 1 = .ok (.invokestatic 153, 3) := by decide +kernel
theorem dX5_requireDays_4 : decode cX5_requireDays 4 = .ok (.iload_n 1, 1) := by decide +kernel
theorem dX5_requireDays_5 : decode cX5_requireDays 5 = .ok (.iload_n 0, 1) := by decide +kernel
theorem dX5_requireDays_6 : decode cX5_requireDays 6 = .ok (.sipush 999, 3) := by decide +kernel
theorem dX5_requireDays_9 : decode cX5_requireDays 9 = .ok (.invokestatic 31, 3) := by decide +kernel
theorem dX5_requireDays_12 : decode cX5_requireDays 12 = .ok (.return_, 1) := by decide +kernel
set_option maxRecDepth 20000 in
theorem ggX5_requireUserAndDay_X5_requireThere : GoodIn wsX5_requireUserAndDay wsX5_requireThere := goodIn_ca (goodIn_r _ [7, 8, 9, 10, 11, 6, 12] (by decide +kernel) (by decide +kernel)) (goodIn_sub (fun _ h => List.mem_cons_of_mem _ (List.mem_append_left _ (List.mem_append_right _ h))) (by decide +kernel))
set_option maxRecDepth 20000 in
theorem gX5_requireUserAndDay_X5_requireThere : GoodIn wsX5_requireUserAndDay (va_wsS RX5 66 yX5_requireThere wsX5_requireThere) := goodIn_app (goodIn_of _ (by decide +kernel)) ggX5_requireUserAndDay_X5_requireThere
set_option maxRecDepth 20000 in
theorem ggX5_requireUserAndDay_X5_requireDay : GoodIn wsX5_requireUserAndDay wsX5_requireDay := goodIn_ca (goodIn_r _ [15, 16, 17, 6, 18, 19, 20, 21, 22, 23] (by decide +kernel) (by decide +kernel)) (goodIn_sub (fun _ h => List.mem_cons_of_mem _ (List.mem_append_right _ h)) (by decide +kernel))
set_option maxRecDepth 20000 in
theorem gX5_requireUserAndDay_X5_requireDay : GoodIn wsX5_requireUserAndDay (va_wsS RX5 153 yX5_requireDay wsX5_requireDay) := goodIn_app (goodIn_of _ (by decide +kernel)) ggX5_requireUserAndDay_X5_requireDay
theorem dX5_requireUserAndDay_0 : decode cX5_requireUserAndDay 0 = .ok (.iload_n 1, 1) := by decide +kernel
theorem dX5_requireUserAndDay_1 : decode cX5_requireUserAndDay 1 = .ok (.aload_n 0, 1) := by decide +kernel
theorem dX5_requireUserAndDay_2 : decode cX5_requireUserAndDay 2 = .ok (.getfield 12, 3) := by decide +kernel
theorem dX5_requireUserAndDay_5 : decode cX5_requireUserAndDay 5 = .ok (.getfield 80, 3) := by decide +kernel
theorem dX5_requireUserAndDay_8 : decode cX5_requireUserAndDay 8 = .ok (.getfield 84, 3) := by decide +kernel
theorem dX5_requireUserAndDay_11 : decode cX5_requireUserAndDay 11 = .ok (.invokestatic 66, 3) := by decide +kernel
theorem dX5_requireUserAndDay_14 : decode cX5_requireUserAndDay 14 = .ok (.iload_n 2, 1) := by decide +kernel
theorem dX5_requireUserAndDay_15 : decode cX5_requireUserAndDay 15 = .ok (.invokestatic 153, 3) := by decide +kernel
theorem dX5_requireUserAndDay_18 : decode cX5_requireUserAndDay 18 = .ok (.return_, 1) := by decide +kernel
theorem dX5_requirePossible_0 : decode cX5_requirePossible 0 = .ok (.iload_n 0, 1) := by decide +kernel
theorem dX5_requirePossible_1 : decode cX5_requirePossible 1 = .ok (.ifCond .ne 13, 3) := by decide +kernel
theorem dX5_requirePossible_4 : decode cX5_requirePossible 4 = .ok (.new 249, 3) := by decide +kernel
theorem dX5_requirePossible_7 : decode cX5_requirePossible 7 = .ok (.dup, 1) := by decide +kernel
theorem dX5_requirePossible_8 : decode cX5_requirePossible 8 = .ok (.ldc 251, 2) := by decide +kernel
theorem dX5_requirePossible_10 : decode cX5_requirePossible 10 = .ok (.invokespecial 253, 3) := by decide +kernel
theorem dX5_requirePossible_13 : decode cX5_requirePossible 13 = .ok (.athrow, 1) := by decide +kernel
theorem dX5_requirePossible_14 : decode cX5_requirePossible 14 = .ok (.return_, 1) := by decide +kernel
theorem dX5_refuse_0 : decode cX5_refuse 0 = .ok (.iload_n 0, 1) := by decide +kernel
theorem dX5_refuse_1 : decode cX5_refuse 1 = .ok (.iconst 1, 1) := by decide +kernel
theorem dX5_refuse_2 : decode cX5_refuse 2 = .ok (.if_icmp .ne 13, 3) := by decide +kernel
theorem dX5_refuse_5 : decode cX5_refuse 5 = .ok (.new 233, 3) := by decide +kernel
theorem dX5_refuse_8 : decode cX5_refuse 8 = .ok (.dup, 1) := by decide +kernel
theorem dX5_refuse_9 : decode cX5_refuse 9 = .ok (.ldc 235, 2) := by decide +kernel
theorem dX5_refuse_11 : decode cX5_refuse 11 = .ok (.invokespecial 237, 3) := by decide +kernel
theorem dX5_refuse_14 : decode cX5_refuse 14 = .ok (.athrow, 1) := by decide +kernel
theorem dX5_refuse_15 : decode cX5_refuse 15 = .ok (.iload_n 0, 1) := by decide +kernel
theorem dX5_refuse_16 : decode cX5_refuse 16 = .ok (.iconst 2, 1) := by decide +kernel
theorem dX5_refuse_17 : decode cX5_refuse 17 = .ok (.if_icmp .ne 13, 3) := by decide +kernel
theorem dX5_refuse_20 : decode cX5_refuse 20 = .ok (.new 244, 3) := by decide +kernel
theorem dX5_refuse_23 : decode cX5_refuse 23 = .ok (.dup, 1) := by decide +kernel
theorem dX5_refuse_24 : decode cX5_refuse 24 = .ok (.ldc 246, 2) := by decide +kernel
theorem dX5_refuse_26 : decode cX5_refuse 26 = .ok (.invokespecial 248, 3) := by decide +kernel
theorem dX5_refuse_29 : decode cX5_refuse 29 = .ok (.athrow, 1) := by decide +kernel
theorem dX5_refuse_30 : decode cX5_refuse 30 = .ok (.iload_n 0, 1) := by decide +kernel
theorem dX5_refuse_31 : decode cX5_refuse 31 = .ok (.iconst 3, 1) := by decide +kernel
theorem dX5_refuse_32 : decode cX5_refuse 32 = .ok (.if_icmp .ne 13, 3) := by decide +kernel
theorem dX5_refuse_35 : decode cX5_refuse 35 = .ok (.new 249, 3) := by decide +kernel
theorem dX5_refuse_38 : decode cX5_refuse 38 = .ok (.dup, 1) := by decide +kernel
theorem dX5_refuse_39 : decode cX5_refuse 39 = .ok (.ldc 251, 2) := by decide +kernel
theorem dX5_refuse_41 : decode cX5_refuse 41 = .ok (.invokespecial 253, 3) := by decide +kernel
theorem dX5_refuse_44 : decode cX5_refuse 44 = .ok (.athrow, 1) := by decide +kernel
theorem dX5_refuse_45 : decode cX5_refuse 45 = .ok (.return_, 1) := by decide +kernel
set_option maxRecDepth 20000 in
theorem ggX5_saveState_X5_dropOldestState : GoodIn wsX5_saveState wsX5_dropOldestState := goodIn_r _ [8, 2, 1, 57, 58, 59, 60] (by decide +kernel) (by decide +kernel)
set_option maxRecDepth 20000 in
theorem gX5_saveState_X5_dropOldestState : GoodIn wsX5_saveState (wsV RX5 254 RX5 yX5_dropOldestState wsX5_dropOldestState) := goodIn_app (goodIn_of _ (by decide +kernel)) ggX5_saveState_X5_dropOldestState
set_option maxRecDepth 20000 in
theorem ggX5_saveState_X0_copy : GoodIn wsX5_saveState wsX0_copy := goodIn_r _ [13, 14, 15, 16, 17, 18, 19, 20, 21, 22, 23, 24, 25, 26, 27, 28, 29, 30, 31, 32, 33, 34, 35, 36, 37, 38, 39, 40, 41, 42, 43, 44, 45, 46, 47, 48, 49, 50, 51, 52, 53, 54, 55, 56, 61, 62, 63, 64, 65, 66, 67, 68, 69, 70, 71, 72, 73, 74, 75, 76, 77, 78, 79, 80, 81, 82] (by decide +kernel) (by decide +kernel)
set_option maxRecDepth 20000 in
theorem gX5_saveState_X0_copy : GoodIn wsX5_saveState (wsV RX5 218 RX0 yX0_copy wsX0_copy) := goodIn_app (goodIn_of _ (by decide +kernel)) ggX5_saveState_X0_copy
theorem dX5_saveState_0 : decode cX5_saveState 0 = .ok (.aload_n 0, 1) := by decide +kernel
theorem dX5_saveState_1 : decode cX5_saveState 1 = .ok (.getfield 20, 3) := by decide +kernel
theorem dX5_saveState_4 : decode cX5_saveState 4 = .ok (.iconst 4, 1) := by decide +kernel
theorem dX5_saveState_5 : decode cX5_saveState 5 = .ok (.if_icmp .ne 7, 3) := by decide +kernel
theorem dX5_saveState_8 : decode cX5_saveState 8 = .ok (.aload_n 0, 1) := by decide +kernel
theorem dX5_saveState_9 : decode cX5_saveState 9 = .ok (.invokevirtual 254, 3) := by decide +kernel
theorem dX5_saveState_12 : decode cX5_saveState 12 = .ok (.aload_n 0, 1) := by decide +kernel
theorem dX5_saveState_13 : decode cX5_saveState 13 = .ok (.getfield 16, 3) := by decide +kernel
theorem dX5_saveState_16 : decode cX5_saveState 16 = .ok (.aload_n 0, 1) := by decide +kernel
theorem dX5_saveState_17 : decode cX5_saveState 17 = .ok (.getfield 20, 3) := by decide +kernel
theorem dX5_saveState_20 : decode cX5_saveState 20 = .ok (.aaload, 1) := by decide +kernel
theorem dX5_saveState_21 : decode cX5_saveState 21 = .ok (.aload_n 0, 1) := by decide +kernel
theorem dX5_saveState_22 : decode cX5_saveState 22 = .ok (.getfield 12, 3) := by decide +kernel
theorem dX5_saveState_25 : decode cX5_saveState 25 = .ok (.invokevirtual 218, 3) := by decide +kernel
theorem dX5_saveState_28 : decode cX5_saveState 28 = .ok (.aload_n 0, 1) := by decide +kernel
theorem dX5_saveState_29 : decode cX5_saveState 29 = .ok (.dup, 1) := by decide +kernel
theorem dX5_saveState_30 : decode cX5_saveState 30 = .ok (.getfield 20, 3) := by decide +kernel
theorem dX5_saveState_33 : decode cX5_saveState 33 = .ok (.iconst 1, 1) := by decide +kernel
theorem dX5_saveState_34 : decode cX5_saveState 34 = .ok (.iadd, 1) := by decide +kernel
theorem dX5_saveState_35 : decode cX5_saveState 35 = .ok (.putfield 20, 3) := by decide +kernel
theorem dX5_saveState_38 : decode cX5_saveState 38 = .ok (.return_, 1) := by decide +kernel
theorem dX5_dropOldestState_0 : decode cX5_dropOldestState 0 = .ok (.aload_n 0, 1) := by decide +kernel
theorem dX5_dropOldestState_1 : decode cX5_dropOldestState 1 = .ok (.getfield 16, 3) := by decide +kernel
theorem dX5_dropOldestState_4 : decode cX5_dropOldestState 4 = .ok (.iconst 0, 1) := by decide +kernel
theorem dX5_dropOldestState_5 : decode cX5_dropOldestState 5 = .ok (.aaload, 1) := by decide +kernel
theorem dX5_dropOldestState_6 : decode cX5_dropOldestState 6 = .ok (.astore_n 1, 1) := by decide +kernel
theorem dX5_dropOldestState_7 : decode cX5_dropOldestState 7 = .ok (.iconst 1, 1) := by decide +kernel
theorem dX5_dropOldestState_8 : decode cX5_dropOldestState 8 = .ok (.istore_n 2, 1) := by decide +kernel
theorem dX5_dropOldestState_9 : decode cX5_dropOldestState 9 = .ok (.iload_n 2, 1) := by decide +kernel
theorem dX5_dropOldestState_10 : decode cX5_dropOldestState 10 = .ok (.aload_n 0, 1) := by decide +kernel
theorem dX5_dropOldestState_11 : decode cX5_dropOldestState 11 = .ok (.getfield 16, 3) := by decide +kernel
theorem dX5_dropOldestState_14 : decode cX5_dropOldestState 14 = .ok (.arraylength, 1) := by decide +kernel
theorem dX5_dropOldestState_15 : decode cX5_dropOldestState 15 = .ok (.if_icmp .ge 23, 3) := by decide +kernel
theorem dX5_dropOldestState_18 : decode cX5_dropOldestState 18 = .ok (.aload_n 0, 1) := by decide +kernel
theorem dX5_dropOldestState_19 : decode cX5_dropOldestState 19 = .ok (.getfield 16, 3) := by decide +kernel
theorem dX5_dropOldestState_22 : decode cX5_dropOldestState 22 = .ok (.iload_n 2, 1) := by decide +kernel
theorem dX5_dropOldestState_23 : decode cX5_dropOldestState 23 = .ok (.iconst 1, 1) := by decide +kernel
theorem dX5_dropOldestState_24 : decode cX5_dropOldestState 24 = .ok (.isub, 1) := by decide +kernel
theorem dX5_dropOldestState_25 : decode cX5_dropOldestState 25 = .ok (.aload_n 0, 1) := by decide +kernel
theorem dX5_dropOldestState_26 : decode cX5_dropOldestState 26 = .ok (.getfield 16, 3) := by decide +kernel
theorem dX5_dropOldestState_29 : decode cX5_dropOldestState 29 = .ok (.iload_n 2, 1) := by decide +kernel
theorem dX5_dropOldestState_30 : decode cX5_dropOldestState 30 = .ok (.aaload, 1) := by decide +kernel
theorem dX5_dropOldestState_31 : decode cX5_dropOldestState 31 = .ok (.aastore, 1) := by decide +kernel
theorem dX5_dropOldestState_32 : decode cX5_dropOldestState 32 = .ok (.iinc 2 1, 3) := by decide +kernel
theorem dX5_dropOldestState_35 : decode cX5_dropOldestState 35 = .ok (.goto (-26), 3) := by decide +kernel
theorem dX5_dropOldestState_38 : decode cX5_dropOldestState 38 = .ok (.aload_n 0, 1) := by decide +kernel
theorem dX5_dropOldestState_39 : decode cX5_dropOldestState 39 = .ok (.getfield 16, 3) := by decide +kernel
theorem dX5_dropOldestState_42 : decode cX5_dropOldestState 42 = .ok (.aload_n 0, 1) := by decide +kernel
theorem dX5_dropOldestState_43 : decode cX5_dropOldestState 43 = .ok (.getfield 16, 3) := by decide +kernel
theorem dX5_dropOldestState_46 : decode cX5_dropOldestState 46 = .ok (.arraylength, 1) := by decide +kernel
theorem dX5_dropOldestState_47 : decode cX5_dropOldestState 47 = .ok (.iconst 1, 1) := by decide +kernel
theorem dX5_dropOldestState_48 : decode cX5_dropOldestState 48 = .ok (.isub, 1) := by decide +kernel
theorem dX5_dropOldestState_49 : decode cX5_dropOldestState 49 = .ok (.aload_n 1, 1) := by decide +kernel
theorem dX5_dropOldestState_50 : decode cX5_dropOldestState 50 = .ok (.aastore, 1) := by decide +kernel
theorem dX5_dropOldestState_51 : decode cX5_dropOldestState 51 = .ok (.aload_n 0, 1) := by decide +kernel
theorem dX5_dropOldestState_52 : decode cX5_dropOldestState 52 = .ok (.dup, 1) := by decide +kernel
theorem dX5_dropOldestState_53 : decode cX5_dropOldestState 53 = .ok (.getfield 20, 3) := by decide +kernel
theorem dX5_dropOldestState_56 : decode cX5_dropOldestState 56 = .ok (.iconst 1, 1) := by decide +kernel
theorem dX5_dropOldestState_57 : decode cX5_dropOldestState 57 = .ok (.isub, 1) := by decide +kernel
theorem dX5_dropOldestState_58 : decode cX5_dropOldestState 58 = .ok (.putfield 20, 3) := by decide +kernel
theorem dX5_dropOldestState_61 : decode cX5_dropOldestState 61 = .ok (.return_, 1) := by decide +kernel
