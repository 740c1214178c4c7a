set_option maxRecDepth 20000 in
theorem ggX0_init_X4_init : GoodIn wsX0_init wsX4_init := goodIn_r _ [18, 19, 2, 3, 20, 21, 22, 23, 24, 25, 45, 46, 47, 48, 49] (by decide +kernel) (by decide +kernel)
set_option maxRecDepth 20000 in
theorem gX0_init_X4_init_n11 : GoodIn wsX0_init (wsX4_init) := ggX0_init_X4_init
set_option maxRecDepth 20000 in
theorem ggX0_init_X3_init : GoodIn wsX0_init wsX3_init := goodIn_r _ [27, 28, 2, 3, 29, 21, 30, 31, 32, 33, 34, 35, 54, 55, 56, 57, 58, 59, 60] (by decide +kernel) (by decide +kernel)
set_option maxRecDepth 20000 in
theorem gX0_init_X3_init_n24 : GoodIn wsX0_init (wsX3_init) := ggX0_init_X3_init
set_option maxRecDepth 20000 in
theorem ggX0_init_X2_init : GoodIn wsX0_init wsX2_init := goodIn_r _ [37, 38, 2, 3, 39, 21, 40, 41, 42, 43, 44, 61, 62, 63, 64, 65, 66] (by decide +kernel) (by decide +kernel)
set_option maxRecDepth 20000 in
theorem gX0_init_X2_init_n31 : GoodIn wsX0_init (wsX2_init) := ggX0_init_X2_init
theorem dX0_init_0 : decode cX0_init 0 = .ok (.aload_n 0, 1) := by decide +kernel
theorem dX0_init_1 : decode cX0_init 1 = .ok (.invokespecial 3, 3) := by decide +kernel
theorem dX0_init_4 : decode cX0_init 4 = .ok (.aload_n 0, 1) := by decide +kernel
theorem dX0_init_5 : decode cX0_init 5 = .ok (.new 9, 3) := by decide +kernel
theorem dX0_init_8 : decode cX0_init 8 = .ok (.dup, 1) := by decide +kernel
theorem dX0_init_9 : decode cX0_init 9 = .ok (.invokespecial 11, 3) := by decide +kernel
theorem dX0_init_12 : decode cX0_init 12 = .ok (.putfield 12, 3) := by decide +kernel
theorem dX0_init_15 : decode cX0_init 15 = .ok (.aload_n 0, 1) := by decide +kernel
theorem dX0_init_16 : decode cX0_init 16 = .ok (.iconst 0, 1) := by decide +kernel
theorem dX0_init_17 : decode cX0_init 17 = .ok (.putfield 18, 3) := by decide +kernel
theorem dX0_init_20 : decode cX0_init 20 = .ok (.aload_n 0, 1) := by decide +kernel
theorem dX0_init_21 : decode cX0_init 21 = .ok (.new 22, 3) := by decide +kernel
theorem dX0_init_24 : decode cX0_init 24 = .ok (.dup, 1) := by decide +kernel
theorem dX0_init_25 : decode cX0_init 25 = .ok (.invokespecial 24, 3) := by decide +kernel
theorem dX0_init_28 : decode cX0_init 28 = .ok (.putfield 25, 3) := by decide +kernel
theorem dX0_init_31 : decode cX0_init 31 = .ok (.aload_n 0, 1) := by decide +kernel
theorem dX0_init_32 : decode cX0_init 32 = .ok (.new 29, 3) := by decide +kernel
theorem dX0_init_35 : decode cX0_init 35 = .ok (.dup, 1) := by decide +kernel
theorem dX0_init_36 : decode cX0_init 36 = .ok (.invokespecial 31, 3) := by decide +kernel
theorem dX0_init_39 : decode cX0_init 39 = .ok (.putfield 32, 3) := by decide +kernel
theorem dX0_init_42 : decode cX0_init 42 = .ok (.return_, 1) := by decide +kernel
set_option maxRecDepth 20000 in
theorem ggX0_copy_X4_copy : GoodIn wsX0_copy wsX4_copy := goodIn_r _ [9, 10, 11, 12, 13, 14, 15, 16, 17, 18, 48, 49, 50, 51, 52] (by decide +kernel) (by decide +kernel)
set_option maxRecDepth 20000 in
theorem gX0_copy_X4_copy : GoodIn wsX0_copy (wsV RX0 36 RX4 yX4_copy wsX4_copy) := goodIn_app (goodIn_of _ (by decide +kernel)) ggX0_copy_X4_copy
set_option maxRecDepth 20000 in
theorem ggX0_copy_X3_copy : GoodIn wsX0_copy wsX3_copy := goodIn_r _ [23, 24, 25, 26, 13, 14, 15, 27, 28, 29, 30, 31, 53, 54, 55, 56, 57, 58, 59] (by decide +kernel) (by decide +kernel)
set_option maxRecDepth 20000 in
theorem gX0_copy_X3_copy : GoodIn wsX0_copy (wsV RX0 40 RX3 yX3_copy wsX3_copy) := goodIn_app (goodIn_of _ (by decide +kernel)) ggX0_copy_X3_copy
set_option maxRecDepth 20000 in
theorem ggX0_copy_X2_copy : GoodIn wsX0_copy wsX2_copy := goodIn_r _ [36, 37, 38, 39, 13, 14, 15, 40, 41, 42, 43, 60, 61, 62, 63, 64, 65] (by decide +kernel) (by decide +kernel)
set_option maxRecDepth 20000 in
theorem gX0_copy_X2_copy : GoodIn wsX0_copy (wsV RX0 43 RX2 yX2_copy wsX2_copy) := goodIn_app (goodIn_of _ (by decide +kernel)) ggX0_copy_X2_copy
theorem dX0_copy_0 : decode cX0_copy 0 = .ok (.aload_n 0, 1) := by decide +kernel
theorem dX0_copy_1 : decode cX0_copy 1 = .ok (.getfield 12, 3) := by decide +kernel
theorem dX0_copy_4 : decode cX0_copy 4 = .ok (.aload_n 1, 1) := by decide +kernel
theorem dX0_copy_5 : decode cX0_copy 5 = .ok (.getfield 12, 3) := by decide +kernel
theorem dX0_copy_8 : decode cX0_copy 8 = .ok (.invokevirtual 36, 3) := by decide +kernel
theorem dX0_copy_11 : decode cX0_copy 11 = .ok (.aload_n 0, 1) := by decide +kernel
theorem dX0_copy_12 : decode cX0_copy 12 = .ok (.aload_n 1, 1) := by decide +kernel
theorem dX0_copy_13 : decode cX0_copy 13 = .ok (.getfield 18, 3) := by decide +kernel
theorem dX0_copy_16 : decode cX0_copy 16 = .ok (.putfield 18, 3) := by decide +kernel
theorem dX0_copy_19 : decode cX0_copy 19 = .ok (.aload_n 0, 1) := by decide +kernel
theorem dX0_copy_20 : decode cX0_copy 20 = .ok (.getfield 25, 3) := by decide +kernel
theorem dX0_copy_23 : decode cX0_copy 23 = .ok (.aload_n 1, 1) := by decide +kernel
theorem dX0_copy_24 : decode cX0_copy 24 = .ok (.getfield 25, 3) := by decide +kernel
theorem dX0_copy_27 : decode cX0_copy 27 = .ok (.invokevirtual 40, 3) := by decide +kernel
theorem dX0_copy_30 : decode cX0_copy 30 = .ok (.aload_n 0, 1) := by decide +kernel
theorem dX0_copy_31 : decode cX0_copy 31 = .ok (.getfield 32, 3) := by decide +kernel
theorem dX0_copy_34 : decode cX0_copy 34 = .ok (.aload_n 1, 1) := by decide +kernel
theorem dX0_copy_35 : decode cX0_copy 35 = .ok (.getfield 32, 3) := by decide +kernel
theorem dX0_copy_38 : decode cX0_copy 38 = .ok (.invokevirtual 43, 3) := by decide +kernel
theorem dX0_copy_41 : decode cX0_copy 41 = .ok (.return_, 1) := by decide +kernel
set_option maxRecDepth 20000 in
theorem ggX0_appendFeature_X5_contains : GoodIn wsX0_appendFeature wsX5_contains := goodIn_r _ [7] (by decide +kernel) (by decide +kernel)
set_option maxRecDepth 20000 in
theorem gX0_appendFeature_X5_contains_n49 : GoodIn wsX0_appendFeature (wsX5_contains) := ggX0_appendFeature_X5_contains
theorem dX0_appendFeature_0 : decode cX0_appendFeature 0 = .ok (.aload_n 0, 1) := by decide +kernel
theorem dX0_appendFeature_1 : decode cX0_appendFeature 1 = .ok (.getfield 18, 3) := by decide +kernel
theorem dX0_appendFeature_4 : decode cX0_appendFeature 4 = .ok (.istore_n 2, 1) := by decide +kernel
theorem dX0_appendFeature_5 : decode cX0_appendFeature 5 = .ok (.iconst 0, 1) := by decide +kernel
theorem dX0_appendFeature_6 : decode cX0_appendFeature 6 = .ok (.istore_n 3, 1) := by decide +kernel
theorem dX0_appendFeature_7 : decode cX0_appendFeature 7 = .ok (.iload_n 3, 1) := by decide +kernel
theorem dX0_appendFeature_8 : decode cX0_appendFeature 8 = .ok (.aload_n 0, 1) := by decide +kernel
theorem dX0_appendFeature_9 : decode cX0_appendFeature 9 = .ok (.getfield 12, 3) := by decide +kernel
theorem dX0_appendFeature_12 : decode cX0_appendFeature 12 = .ok (.getfield 46, 3) := by decide +kernel
theorem dX0_appendFeature_15 : decode cX0_appendFeature 15 = .ok (.if_icmp .ge 32, 3) := by decide +kernel
theorem dX0_appendFeature_18 : decode cX0_appendFeature 18 = .ok (.iload_n 1, 1) := by decide +kernel
theorem dX0_appendFeature_19 : decode cX0_appendFeature 19 = .ok (.iload_n 3, 1) := by decide +kernel
theorem dX0_appendFeature_20 : decode cX0_appendFeature 20 = .ok (.invokestatic 49, 3) := by decide +kernel
theorem dX0_appendFeature_23 : decode cX0_appendFeature 23 = .ok (.ifCond .eq 18, 3) := by decide +kernel
theorem dX0_appendFeature_26 : decode cX0_appendFeature 26 = .ok (.aload_n 0, 1) := by decide +kernel
theorem dX0_appendFeature_27 : decode cX0_appendFeature 27 = .ok (.getfield 12, 3) := by decide +kernel
theorem dX0_appendFeature_30 : decode cX0_appendFeature 30 = .ok (.getfield 53, 3) := by decide +kernel
theorem dX0_appendFeature_33 : decode cX0_appendFeature 33 = .ok (.iload_n 3, 1) := by decide +kernel
theorem dX0_appendFeature_34 : decode cX0_appendFeature 34 = .ok (.dup2, 1) := by decide +kernel
theorem dX0_appendFeature_35 : decode cX0_appendFeature 35 = .ok (.iaload, 1) := by decide +kernel
theorem dX0_appendFeature_36 : decode cX0_appendFeature 36 = .ok (.iconst 1, 1) := by decide +kernel
theorem dX0_appendFeature_37 : decode cX0_appendFeature 37 = .ok (.iload_n 2, 1) := by decide +kernel
theorem dX0_appendFeature_38 : decode cX0_appendFeature 38 = .ok (.ishl, 1) := by decide +kernel
theorem dX0_appendFeature_39 : decode cX0_appendFeature 39 = .ok (.ior, 1) := by decide +kernel
theorem dX0_appendFeature_40 : decode cX0_appendFeature 40 = .ok (.iastore, 1) := by decide +kernel
theorem dX0_appendFeature_41 : decode cX0_appendFeature 41 = .ok (.iinc 3 1, 3) := by decide +kernel
theorem dX0_appendFeature_44 : decode cX0_appendFeature 44 = .ok (.goto (-37), 3) := by decide +kernel
theorem dX0_appendFeature_47 : decode cX0_appendFeature 47 = .ok (.aload_n 0, 1) := by decide +kernel
theorem dX0_appendFeature_48 : decode cX0_appendFeature 48 = .ok (.dup, 1) := by decide +kernel
theorem dX0_appendFeature_49 : decode cX0_appendFeature 49 = .ok (.getfield 18, 3) := by decide +kernel
theorem dX0_appendFeature_52 : decode cX0_appendFeature 52 = .ok (.iconst 1, 1) := by decide +kernel
theorem dX0_appendFeature_53 : decode cX0_appendFeature 53 = .ok (.iadd, 1) := by decide +kernel
theorem dX0_appendFeature_54 : decode cX0_appendFeature 54 = .ok (.putfield 18, 3) := by decide +kernel
theorem dX0_appendFeature_57 : decode cX0_appendFeature 57 = .ok (.iload_n 2, 1) := by decide +kernel
theorem dX0_appendFeature_58 : decode cX0_appendFeature 58 = .ok (.ireturn, 1) := by decide +kernel
set_option maxRecDepth 20000 in
theorem ggX0_pledgeFault_X5_isThere : GoodIn wsX0_pledgeFault wsX5_isThere := goodIn_r _ [7] (by decide +kernel) (by decide +kernel)
set_option maxRecDepth 20000 in
theorem gX0_pledgeFault_X5_isThere_n58 : GoodIn wsX0_pledgeFault (wsX5_isThere) := ggX0_pledgeFault_X5_isThere
set_option maxRecDepth 20000 in
theorem ggX0_pledgeFault_X5_isWithin : GoodIn wsX0_pledgeFault wsX5_isWithin := goodIn_r _ [9] (by decide +kernel) (by decide +kernel)
set_option maxRecDepth 20000 in
theorem gX0_pledgeFault_X5_isWithin_n61 : GoodIn wsX0_pledgeFault (wsX5_isWithin) := ggX0_pledgeFault_X5_isWithin
theorem dX0_pledgeFault_0 : decode cX0_pledgeFault 0 = .ok (.iload_n 1, 1) := by decide +kernel
theorem dX0_pledgeFault_1 : decode cX0_pledgeFault 1 = .ok (.aload_n 0, 1) := by decide +kernel
theorem dX0_pledgeFault_2 : decode cX0_pledgeFault 2 = .ok (.getfield 25, 3) := by decide +kernel
theorem dX0_pledgeFault_5 : decode cX0_pledgeFault 5 = .ok (.getfield 57, 3) := by decide +kernel
theorem dX0_pledgeFault_8 : decode cX0_pledgeFault 8 = .ok (.invokestatic 58, 3) := by decide +kernel
theorem dX0_pledgeFault_11 : decode cX0_pledgeFault 11 = .ok (.ifCond .eq 17, 3) := by decide +kernel
theorem dX0_pledgeFault_14 : decode cX0_pledgeFault 14 = .ok (.iload_n 2, 1) := by decide +kernel
theorem dX0_pledgeFault_15 : decode cX0_pledgeFault 15 = .ok (.aload_n 0, 1) := by decide +kernel
theorem dX0_pledgeFault_16 : decode cX0_pledgeFault 16 = .ok (.getfield 12, 3) := by decide +kernel
theorem dX0_pledgeFault_19 : decode cX0_pledgeFault 19 = .ok (.getfield 46, 3) := by decide +kernel
theorem dX0_pledgeFault_22 : decode cX0_pledgeFault 22 = .ok (.invokestatic 58, 3) := by decide +kernel
theorem dX0_pledgeFault_25 : decode cX0_pledgeFault 25 = .ok (.ifCond .ne 5, 3) := by decide +kernel
theorem dX0_pledgeFault_28 : decode cX0_pledgeFault 28 = .ok (.iconst 1, 1) := by decide +kernel
theorem dX0_pledgeFault_29 : decode cX0_pledgeFault 29 = .ok (.ireturn, 1) := by decide +kernel
theorem dX0_pledgeFault_30 : decode cX0_pledgeFault 30 = .ok (.iload_n 3, 1) := by decide +kernel
theorem dX0_pledgeFault_31 : decode cX0_pledgeFault 31 = .ok (.iconst 0, 1) := by decide +kernel
theorem dX0_pledgeFault_32 : decode cX0_pledgeFault 32 = .ok (.sipush 999, 3) := by decide +kernel
theorem dX0_pledgeFault_35 : decode cX0_pledgeFault 35 = .ok (.invokestatic 61, 3) := by decide +kernel
theorem dX0_pledgeFault_38 : decode cX0_pledgeFault 38 = .ok (.ifCond .eq 7, 3) := by decide +kernel
theorem dX0_pledgeFault_41 : decode cX0_pledgeFault 41 = .ok (.iconst 0, 1) := by decide +kernel
theorem dX0_pledgeFault_42 : decode cX0_pledgeFault 42 = .ok (.goto 4, 3) := by decide +kernel
theorem dX0_pledgeFault_45 : decode cX0_pledgeFault 45 = .ok (.iconst 2, 1) := by decide +kernel
theorem dX0_pledgeFault_46 : decode cX0_pledgeFault 46 = .ok (.ireturn, 1) := by decide +kernel
set_option maxRecDepth 20000 in
theorem ggX0_slipFault_X5_isThere : GoodIn wsX0_slipFault wsX5_isThere := goodIn_r _ [6] (by decide +kernel) (by decide +kernel)
set_option maxRecDepth 20000 in
theorem gX0_slipFault_X5_isThere_n58 : GoodIn wsX0_slipFault (wsX5_isThere) := ggX0_slipFault_X5_isThere
set_option maxRecDepth 20000 in
theorem ggX0_slipFault_X5_isWithin : GoodIn wsX0_slipFault wsX5_isWithin := goodIn_r _ [8] (by decide +kernel) (by decide +kernel)
set_option maxRecDepth 20000 in
theorem gX0_slipFault_X5_isWithin_n61 : GoodIn wsX0_slipFault (wsX5_isWithin) := ggX0_slipFault_X5_isWithin
set_option maxRecDepth 20000 in
theorem ggX0_slipFault_X3_isPledged : GoodIn wsX0_slipFault wsX3_isPledged := goodIn_r _ [13, 14, 19, 20, 21, 22, 23, 24, 25] (by decide +kernel) (by decide +kernel)
set_option maxRecDepth 20000 in
theorem gX0_slipFault_X3_isPledged : GoodIn wsX0_slipFault (wsV RX0 65 RX3 yX3_isPledged wsX3_isPledged) := goodIn_app (goodIn_of _ (by decide +kernel)) ggX0_slipFault_X3_isPledged
theorem dX0_slipFault_0 : decode cX0_slipFault 0 = .ok (.iload_n 1, 1) := by decide +kernel
theorem dX0_slipFault_1 : decode cX0_slipFault 1 = .ok (.aload_n 0, 1) := by decide +kernel
theorem dX0_slipFault_2 : decode cX0_slipFault 2 = .ok (.getfield 25, 3) := by decide +kernel
theorem dX0_slipFault_5 : decode cX0_slipFault 5 = .ok (.getfield 57, 3) := by decide +kernel
theorem dX0_slipFault_8 : decode cX0_slipFault 8 = .ok (.invokestatic 58, 3) := by decide +kernel
theorem dX0_slipFault_11 : decode cX0_slipFault 11 = .ok (.ifCond .ne 5, 3) := by decide +kernel
theorem dX0_slipFault_14 : decode cX0_slipFault 14 = .ok (.iconst 1, 1) := by decide +kernel
theorem dX0_slipFault_15 : decode cX0_slipFault 15 = .ok (.ireturn, 1) := by decide +kernel
theorem dX0_slipFault_16 : decode cX0_slipFault 16 = .ok (.iload_n 2, 1) := by decide +kernel
theorem dX0_slipFault_17 : decode cX0_slipFault 17 = .ok (.iconst 1, 1) := by decide +kernel
theorem dX0_slipFault_18 : decode cX0_slipFault 18 = .ok (.bipush 99, 2) := by decide +kernel
theorem dX0_slipFault_20 : decode cX0_slipFault 20 = .ok (.invokestatic 61, 3) := by decide +kernel
theorem dX0_slipFault_23 : decode cX0_slipFault 23 = .ok (.ifCond .ne 5, 3) := by decide +kernel
theorem dX0_slipFault_26 : decode cX0_slipFault 26 = .ok (.iconst 2, 1) := by decide +kernel
theorem dX0_slipFault_27 : decode cX0_slipFault 27 = .ok (.ireturn, 1) := by decide +kernel
theorem dX0_slipFault_28 : decode cX0_slipFault 28 = .ok (.aload_n 0, 1) := by decide +kernel
theorem dX0_slipFault_29 : decode cX0_slipFault 29 = .ok (.getfield 25, 3) := by decide +kernel
theorem dX0_slipFault_32 : decode cX0_slipFault 32 = .ok (.iload_n 1, 1) := by decide +kernel
theorem dX0_slipFault_33 : decode cX0_slipFault 33 = .ok (.invokevirtual 65, 3) := by decide +kernel
theorem dX0_slipFault_36 : decode cX0_slipFault 36 = .ok (.ifCond .eq 24, 3) := by decide +kernel
theorem dX0_slipFault_39 : decode cX0_slipFault 39 = .ok (.aload_n 0, 1) := by decide +kernel
theorem dX0_slipFault_40 : decode cX0_slipFault 40 = .ok (.getfield 25, 3) := by decide +kernel
theorem dX0_slipFault_43 : decode cX0_slipFault 43 = .ok (.getfield 69, 3) := by decide +kernel
theorem dX0_slipFault_46 : decode cX0_slipFault 46 = .ok (.iload_n 1, 1) := by decide +kernel
theorem dX0_slipFault_47 : decode cX0_slipFault 47 = .ok (.iaload, 1) := by decide +kernel
theorem dX0_slipFault_48 : decode cX0_slipFault 48 = .ok (.iload_n 2, 1) := by decide +kernel
theorem dX0_slipFault_49 : decode cX0_slipFault 49 = .ok (.iadd, 1) := by decide +kernel
theorem dX0_slipFault_50 : decode cX0_slipFault 50 = .ok (.sipush 999, 3) := by decide +kernel
theorem dX0_slipFault_53 : decode cX0_slipFault 53 = .ok (.if_icmp .gt 7, 3) := by decide +kernel
theorem dX0_slipFault_56 : decode cX0_slipFault 56 = .ok (.iconst 0, 1) := by decide +kernel
theorem dX0_slipFault_57 : decode cX0_slipFault 57 = .ok (.goto 4, 3) := by decide +kernel
theorem dX0_slipFault_60 : decode cX0_slipFault 60 = .ok (.iconst 3, 1) := by decide +kernel
theorem dX0_slipFault_61 : decode cX0_slipFault 61 = .ok (.ireturn, 1) := by decide +kernel
set_option maxRecDepth 20000 in
theorem ggX0_extendFault_X5_isThere : GoodIn wsX0_extendFault wsX5_isThere := goodIn_r _ [6] (by decide +kernel) (by decide +kernel)
set_option maxRecDepth 20000 in
theorem gX0_extendFault_X5_isThere_n58 : GoodIn wsX0_extendFault (wsX5_isThere) := ggX0_extendFault_X5_isThere
set_option maxRecDepth 20000 in
theorem ggX0_extendFault_X5_isWithin : GoodIn wsX0_extendFault wsX5_isWithin := goodIn_r _ [8] (by decide +kernel) (by decide +kernel)
set_option maxRecDepth 20000 in
theorem gX0_extendFault_X5_isWithin_n61 : GoodIn wsX0_extendFault (wsX5_isWithin) := ggX0_extendFault_X5_isWithin
theorem dX0_extendFault_0 : decode cX0_extendFault 0 = .ok (.iload_n 1, 1) := by decide +kernel
theorem dX0_extendFault_1 : decode cX0_extendFault 1 = .ok (.aload_n 0, 1) := by decide +kernel
theorem dX0_extendFault_2 : decode cX0_extendFault 2 = .ok (.getfield 12, 3) := by decide +kernel
theorem dX0_extendFault_5 : decode cX0_extendFault 5 = .ok (.getfield 46, 3) := by decide +kernel
theorem dX0_extendFault_8 : decode cX0_extendFault 8 = .ok (.invokestatic 58, 3) := by decide +kernel
theorem dX0_extendFault_11 : decode cX0_extendFault 11 = .ok (.ifCond .ne 5, 3) := by decide +kernel
theorem dX0_extendFault_14 : decode cX0_extendFault 14 = .ok (.iconst 1, 1) := by decide +kernel
theorem dX0_extendFault_15 : decode cX0_extendFault 15 = .ok (.ireturn, 1) := by decide +kernel
theorem dX0_extendFault_16 : decode cX0_extendFault 16 = .ok (.iload_n 2, 1) := by decide +kernel
theorem dX0_extendFault_17 : decode cX0_extendFault 17 = .ok (.iconst 1, 1) := by decide +kernel
theorem dX0_extendFault_18 : decode cX0_extendFault 18 = .ok (.bipush 99, 2) := by decide +kernel
theorem dX0_extendFault_20 : decode cX0_extendFault 20 = .ok (.invokestatic 61, 3) := by decide +kernel
theorem dX0_extendFault_23 : decode cX0_extendFault 23 = .ok (.ifCond .ne 5, 3) := by decide +kernel
theorem dX0_extendFault_26 : decode cX0_extendFault 26 = .ok (.iconst 2, 1) := by decide +kernel
theorem dX0_extendFault_27 : decode cX0_extendFault 27 = .ok (.ireturn, 1) := by decide +kernel
theorem dX0_extendFault_28 : decode cX0_extendFault 28 = .ok (.aload_n 0, 1) := by decide +kernel
theorem dX0_extendFault_29 : decode cX0_extendFault 29 = .ok (.getfield 12, 3) := by decide +kernel
theorem dX0_extendFault_32 : decode cX0_extendFault 32 = .ok (.getfield 72, 3) := by decide +kernel
theorem dX0_extendFault_35 : decode cX0_extendFault 35 = .ok (.iload_n 1, 1) := by decide +kernel
theorem dX0_extendFault_36 : decode cX0_extendFault 36 = .ok (.iaload, 1) := by decide +kernel
theorem dX0_extendFault_37 : decode cX0_extendFault 37 = .ok (.iload_n 2, 1) := by decide +kernel
theorem dX0_extendFault_38 : decode cX0_extendFault 38 = .ok (.iadd, 1) := by decide +kernel
theorem dX0_extendFault_39 : decode cX0_extendFault 39 = .ok (.sipush 1000, 3) := by decide +kernel
theorem dX0_extendFault_42 : decode cX0_extendFault 42 = .ok (.if_icmp .gt 7, 3) := by decide +kernel
theorem dX0_extendFault_45 : decode cX0_extendFault 45 = .ok (.iconst 0, 1) := by decide +kernel
theorem dX0_extendFault_46 : decode cX0_extendFault 46 = .ok (.goto 4, 3) := by decide +kernel
theorem dX0_extendFault_49 : decode cX0_extendFault 49 = .ok (.iconst 3, 1) := by decide +kernel
theorem dX0_extendFault_50 : decode cX0_extendFault 50 = .ok (.ireturn, 1) := by decide +kernel
set_option maxRecDepth 20000 in
theorem ggX0_shimFault_X5_isThere : GoodIn wsX0_shimFault wsX5_isThere := goodIn_r _ [8] (by decide +kernel) (by decide +kernel)
set_option maxRecDepth 20000 in
theorem gX0_shimFault_X5_isThere_n58 : GoodIn wsX0_shimFault (wsX5_isThere) := ggX0_shimFault_X5_isThere
set_option maxRecDepth 20000 in
theorem ggX0_shimFault_X5_isWithin : GoodIn wsX0_shimFault wsX5_isWithin := goodIn_r _ [10] (by decide +kernel) (by decide +kernel)
set_option maxRecDepth 20000 in
theorem gX0_shimFault_X5_isWithin_n61 : GoodIn wsX0_shimFault (wsX5_isWithin) := ggX0_shimFault_X5_isWithin
theorem dX0_shimFault_0 : decode cX0_shimFault 0 = .ok (.iload_n 1, 1) := by decide +kernel
theorem dX0_shimFault_1 : decode cX0_shimFault 1 = .ok (.aload_n 0, 1) := by decide +kernel
theorem dX0_shimFault_2 : decode cX0_shimFault 2 = .ok (.getfield 18, 3) := by decide +kernel
theorem dX0_shimFault_5 : decode cX0_shimFault 5 = .ok (.invokestatic 58, 3) := by decide +kernel
theorem dX0_shimFault_8 : decode cX0_shimFault 8 = .ok (.ifCond .eq 17, 3) := by decide +kernel
theorem dX0_shimFault_11 : decode cX0_shimFault 11 = .ok (.iload_n 2, 1) := by decide +kernel
theorem dX0_shimFault_12 : decode cX0_shimFault 12 = .ok (.aload_n 0, 1) := by decide +kernel
theorem dX0_shimFault_13 : decode cX0_shimFault 13 = .ok (.getfield 12, 3) := by decide +kernel
theorem dX0_shimFault_16 : decode cX0_shimFault 16 = .ok (.getfield 46, 3) := by decide +kernel
theorem dX0_shimFault_19 : decode cX0_shimFault 19 = .ok (.invokestatic 58, 3) := by decide +kernel
theorem dX0_shimFault_22 : decode cX0_shimFault 22 = .ok (.ifCond .ne 5, 3) := by decide +kernel
theorem dX0_shimFault_25 : decode cX0_shimFault 25 = .ok (.iconst 1, 1) := by decide +kernel
theorem dX0_shimFault_26 : decode cX0_shimFault 26 = .ok (.ireturn, 1) := by decide +kernel
theorem dX0_shimFault_27 : decode cX0_shimFault 27 = .ok (.iload_n 3, 1) := by decide +kernel
theorem dX0_shimFault_28 : decode cX0_shimFault 28 = .ok (.iconst 0, 1) := by decide +kernel
theorem dX0_shimFault_29 : decode cX0_shimFault 29 = .ok (.sipush 999, 3) := by decide +kernel
theorem dX0_shimFault_32 : decode cX0_shimFault 32 = .ok (.invokestatic 61, 3) := by decide +kernel
theorem dX0_shimFault_35 : decode cX0_shimFault 35 = .ok (.ifCond .eq 26, 3) := by decide +kernel
theorem dX0_shimFault_38 : decode cX0_shimFault 38 = .ok (.iload 4, 2) := by decide +kernel
theorem dX0_shimFault_40 : decode cX0_shimFault 40 = .ok (.iload_n 3, 1) := by decide +kernel
theorem dX0_shimFault_41 : decode cX0_shimFault 41 = .ok (.sipush 999, 3) := by decide +kernel
theorem dX0_shimFault_44 : decode cX0_shimFault 44 = .ok (.invokestatic 61, 3) := by decide +kernel
theorem dX0_shimFault_47 : decode cX0_shimFault 47 = .ok (.ifCond .eq 14, 3) := by decide +kernel
theorem dX0_shimFault_50 : decode cX0_shimFault 50 = .ok (.iload 5, 2) := by decide +kernel
theorem dX0_shimFault_52 : decode cX0_shimFault 52 = .ok (.iconst 1, 1) := by decide +kernel
theorem dX0_shimFault_53 : decode cX0_shimFault 53 = .ok (.bipush 99, 2) := by decide +kernel
theorem dX0_shimFault_55 : decode cX0_shimFault 55 = .ok (.invokestatic 61, 3) := by decide +kernel
theorem dX0_shimFault_58 : decode cX0_shimFault 58 = .ok (.ifCond .ne 5, 3) := by decide +kernel
theorem dX0_shimFault_61 : decode cX0_shimFault 61 = .ok (.iconst 2, 1) := by decide +kernel
theorem dX0_shimFault_62 : decode cX0_shimFault 62 = .ok (.ireturn, 1) := by decide +kernel
theorem dX0_shimFault_63 : decode cX0_shimFault 63 = .ok (.aload_n 0, 1) := by decide +kernel
theorem dX0_shimFault_64 : decode cX0_shimFault 64 = .ok (.getfield 32, 3) := by decide +kernel
theorem dX0_shimFault_67 : decode cX0_shimFault 67 = .ok (.getfield 75, 3) := by decide +kernel
theorem dX0_shimFault_70 : decode cX0_shimFault 70 = .ok (.bipush 12, 2) := by decide +kernel
theorem dX0_shimFault_72 : decode cX0_shimFault 72 = .ok (.if_icmp .ge 7, 3) := by decide +kernel
theorem dX0_shimFault_75 : decode cX0_shimFault 75 = .ok (.iconst 0, 1) := by decide +kernel
theorem dX0_shimFault_76 : decode cX0_shimFault 76 = .ok (.goto 4, 3) := by decide +kernel
theorem dX0_shimFault_79 : decode cX0_shimFault 79 = .ok (.iconst 3, 1) := by decide +kernel
theorem dX0_shimFault_80 : decode cX0_shimFault 80 = .ok (.ireturn, 1) := by decide +kernel
set_option maxRecDepth 20000 in
theorem ggX0_dropFault_X5_isThere : GoodIn wsX0_dropFault wsX5_isThere := goodIn_r _ [5] (by decide +kernel) (by decide +kernel)
set_option maxRecDepth 20000 in
theorem gX0_dropFault_X5_isThere_n58 : GoodIn wsX0_dropFault (wsX5_isThere) := ggX0_dropFault_X5_isThere
theorem dX0_dropFault_0 : decode cX0_dropFault 0 = .ok (.iload_n 1, 1) := by decide +kernel
theorem dX0_dropFault_1 : decode cX0_dropFault 1 = .ok (.aload_n 0, 1) := by decide +kernel
theorem dX0_dropFault_2 : decode cX0_dropFault 2 = .ok (.getfield 32, 3) := by decide +kernel
theorem dX0_dropFault_5 : decode cX0_dropFault 5 = .ok (.getfield 75, 3) := by decide +kernel
theorem dX0_dropFault_8 : decode cX0_dropFault 8 = .ok (.invokestatic 58, 3) := by decide +kernel
theorem dX0_dropFault_11 : decode cX0_dropFault 11 = .ok (.ifCond .eq 7, 3) := by decide +kernel
theorem dX0_dropFault_14 : decode cX0_dropFault 14 = .ok (.iconst 0, 1) := by decide +kernel
theorem dX0_dropFault_15 : decode cX0_dropFault 15 = .ok (.goto 4, 3) := by decide +kernel
theorem dX0_dropFault_18 : decode cX0_dropFault 18 = .ok (.iconst 1, 1) := by decide +kernel
theorem dX0_dropFault_19 : decode cX0_dropFault 19 = .ok (.ireturn, 1) := by decide +kernel
set_option maxRecDepth 20000 in
theorem ggX0_ofVersion_X2_countFor : GoodIn wsX0_ofVersion wsX2_countFor := goodIn_r _ [11, 12, 13, 23, 24, 25, 26, 27, 28] (by decide +kernel) (by decide +kernel)
set_option maxRecDepth 20000 in
theorem gX0_ofVersion_X2_countFor : GoodIn wsX0_ofVersion (wsV RX0 82 RX2 yX2_countFor wsX2_countFor) := goodIn_app (goodIn_of _ (by decide +kernel)) ggX0_ofVersion_X2_countFor
theorem dX0_ofVersion_0 : decode cX0_ofVersion 0 = .ok (.iload_n 2, 1) := by decide +kernel
theorem dX0_ofVersion_1 : decode cX0_ofVersion 1 = .ok (.tableswitch 71 0 3 #[31, 41, 51, 61], 31) := by decide +kernel
theorem dX0_ofVersion_32 : decode cX0_ofVersion 32 = .ok (.aload_n 0, 1) := by decide +kernel
theorem dX0_ofVersion_33 : decode cX0_ofVersion 33 = .ok (.getfield 12, 3) := by decide +kernel
theorem dX0_ofVersion_36 : decode cX0_ofVersion 36 = .ok (.getfield 76, 3) := by decide +kernel
theorem dX0_ofVersion_39 : decode cX0_ofVersion 39 = .ok (.iload_n 1, 1) := by decide +kernel
theorem dX0_ofVersion_40 : decode cX0_ofVersion 40 = .ok (.iaload, 1) := by decide +kernel
theorem dX0_ofVersion_41 : decode cX0_ofVersion 41 = .ok (.ireturn, 1) := by decide +kernel
theorem dX0_ofVersion_42 : decode cX0_ofVersion 42 = .ok (.aload_n 0, 1) := by decide +kernel
theorem dX0_ofVersion_43 : decode cX0_ofVersion 43 = .ok (.getfield 12, 3) := by decide +kernel
theorem dX0_ofVersion_46 : decode cX0_ofVersion 46 = .ok (.getfield 72, 3) := by decide +kernel
theorem dX0_ofVersion_49 : decode cX0_ofVersion 49 = .ok (.iload_n 1, 1) := by decide +kernel
theorem dX0_ofVersion_50 : decode cX0_ofVersion 50 = .ok (.iaload, 1) := by decide +kernel
theorem dX0_ofVersion_51 : decode cX0_ofVersion 51 = .ok (.ireturn, 1) := by decide +kernel
theorem dX0_ofVersion_52 : decode cX0_ofVersion 52 = .ok (.aload_n 0, 1) := by decide +kernel
theorem dX0_ofVersion_53 : decode cX0_ofVersion 53 = .ok (.getfield 12, 3) := by decide +kernel
theorem dX0_ofVersion_56 : decode cX0_ofVersion 56 = .ok (.getfield 53, 3) := by decide +kernel
theorem dX0_ofVersion_59 : decode cX0_ofVersion 59 = .ok (.iload_n 1, 1) := by decide +kernel
theorem dX0_ofVersion_60 : decode cX0_ofVersion 60 = .ok (.iaload, 1) := by decide +kernel
theorem dX0_ofVersion_61 : decode cX0_ofVersion 61 = .ok (.ireturn, 1) := by decide +kernel
theorem dX0_ofVersion_62 : decode cX0_ofVersion 62 = .ok (.aload_n 0, 1) := by decide +kernel
theorem dX0_ofVersion_63 : decode cX0_ofVersion 63 = .ok (.getfield 12, 3) := by decide +kernel
theorem dX0_ofVersion_66 : decode cX0_ofVersion 66 = .ok (.getfield 79, 3) := by decide +kernel
theorem dX0_ofVersion_69 : decode cX0_ofVersion 69 = .ok (.iload_n 1, 1) := by decide +kernel
theorem dX0_ofVersion_70 : decode cX0_ofVersion 70 = .ok (.iaload, 1) := by decide +kernel
theorem dX0_ofVersion_71 : decode cX0_ofVersion 71 = .ok (.ireturn, 1) := by decide +kernel
theorem dX0_ofVersion_72 : decode cX0_ofVersion 72 = .ok (.aload_n 0, 1) := by decide +kernel
theorem dX0_ofVersion_73 : decode cX0_ofVersion 73 = .ok (.getfield 32, 3) := by decide +kernel
theorem dX0_ofVersion_76 : decode cX0_ofVersion 76 = .ok (.iload_n 1, 1) := by decide +kernel
theorem dX0_ofVersion_77 : decode cX0_ofVersion 77 = .ok (.invokevirtual 82, 3) := by decide +kernel
theorem dX0_ofVersion_80 : decode cX0_ofVersion 80 = .ok (.ireturn, 1) := by decide +kernel
set_option maxRecDepth 20000 in
theorem ggX0_number_X3_pledgeCount : GoodIn wsX0_number wsX3_pledgeCount := goodIn_r _ [12, 13, 14, 15, 16, 11, 17, 18, 107, 108, 109, 110, 111, 112, 113] (by decide +kernel) (by decide +kernel)
set_option maxRecDepth 20000 in
theorem gX0_number_X3_pledgeCount : GoodIn wsX0_number (wsV RX0 86 RX3 yX3_pledgeCount wsX3_pledgeCount) := goodIn_app (goodIn_of _ (by decide +kernel)) ggX0_number_X3_pledgeCount
set_option maxRecDepth 20000 in
theorem ggX0_number_X3_useCount : GoodIn wsX0_number wsX3_useCount := goodIn_r _ [22, 13, 23, 24, 25, 26, 27, 28, 29, 30, 107, 108, 109, 110, 111, 112, 113] (by decide +kernel) (by decide +kernel)
set_option maxRecDepth 20000 in
theorem gX0_number_X3_useCount : GoodIn wsX0_number (wsV RX0 90 RX3 yX3_useCount wsX3_useCount) := goodIn_app (goodIn_of _ (by decide +kernel)) ggX0_number_X3_useCount
set_option maxRecDepth 20000 in
theorem ggX0_number_X3_slipCount : GoodIn wsX0_number wsX3_slipCount := goodIn_r _ [34, 13, 35, 107, 108, 109, 110, 111, 112, 113] (by decide +kernel) (by decide +kernel)
set_option maxRecDepth 20000 in
theorem gX0_number_X3_slipCount : GoodIn wsX0_number (wsV RX0 93 RX3 yX3_slipCount wsX3_slipCount) := goodIn_app (goodIn_of _ (by decide +kernel)) ggX0_number_X3_slipCount
set_option maxRecDepth 20000 in
theorem ggX0_number_X0_strandedDays : GoodIn wsX0_number wsX0_strandedDays := goodIn_r _ [40, 41, 42, 43, 44, 45, 46, 47, 39, 48, 1, 2, 49, 50, 4, 5, 51, 6, 7, 52, 53, 54, 55, 56, 57, 58, 59, 60, 61, 62, 63, 64, 65, 66, 67, 68, 11, 69, 70, 18, 71, 14, 15, 16, 17, 72, 73, 74, 75, 76, 77, 78, 79, 80, 81, 82, 83, 84, 85, 86, 87, 88, 89, 90, 91, 92, 93, 94, 95, 96, 97, 98, 99, 100, 101, 102, 103, 104, 105, 106, 107, 108, 109, 110, 111, 112, 113, 114, 115, 116, 117, 118, 119] (by decide +kernel) (by decide +kernel)
set_option maxRecDepth 20000 in
theorem gX0_number_X0_strandedDays : GoodIn wsX0_number (wsV RX0 96 RX0 yX0_strandedDays wsX0_strandedDays) := goodIn_app (goodIn_of _ (by decide +kernel)) ggX0_number_X0_strandedDays
theorem dX0_number_0 : decode cX0_number 0 = .ok (.iload_n 1, 1) := by decide +kernel
theorem dX0_number_1 : decode cX0_number 1 = .ok (.tableswitch 96 0 6 #[43, 51, 56, 64, 72, 80, 88], 43) := by decide +kernel
theorem dX0_number_44 : decode cX0_number 44 = .ok (.aload_n 0, 1) := by decide +kernel
theorem dX0_number_45 : decode cX0_number 45 = .ok (.getfield 12, 3) := by decide +kernel
theorem dX0_number_48 : decode cX0_number 48 = .ok (.getfield 46, 3) := by decide +kernel
theorem dX0_number_51 : decode cX0_number 51 = .ok (.ireturn, 1) := by decide +kernel
theorem dX0_number_52 : decode cX0_number 52 = .ok (.aload_n 0, 1) := by decide +kernel
theorem dX0_number_53 : decode cX0_number 53 = .ok (.getfield 18, 3) := by decide +kernel
theorem dX0_number_56 : decode cX0_number 56 = .ok (.ireturn, 1) := by decide +kernel
theorem dX0_number_57 : decode cX0_number 57 = .ok (.aload_n 0, 1) := by decide +kernel
theorem dX0_number_58 : decode cX0_number 58 = .ok (.getfield 25, 3) := by decide +kernel
theorem dX0_number_61 : decode cX0_number 61 = .ok (.getfield 57, 3) := by decide +kernel
theorem dX0_number_64 : decode cX0_number 64 = .ok (.ireturn, 1) := by decide +kernel
theorem dX0_number_65 : decode cX0_number 65 = .ok (.aload_n 0, 1) := by decide +kernel
theorem dX0_number_66 : decode cX0_number 66 = .ok (.getfield 32, 3) := by decide +kernel
theorem dX0_number_69 : decode cX0_number 69 = .ok (.getfield 75, 3) := by decide +kernel
theorem dX0_number_72 : decode cX0_number 72 = .ok (.ireturn, 1) := by decide +kernel
theorem dX0_number_73 : decode cX0_number 73 = .ok (.aload_n 0, 1) := by decide +kernel
theorem dX0_number_74 : decode cX0_number 74 = .ok (.getfield 25, 3) := by decide +kernel
theorem dX0_number_77 : decode cX0_number 77 = .ok (.invokevirtual 86, 3) := by decide +kernel
theorem dX0_number_80 : decode cX0_number 80 = .ok (.ireturn, 1) := by decide +kernel
theorem dX0_number_81 : decode cX0_number 81 = .ok (.aload_n 0, 1) := by decide +kernel
theorem dX0_number_82 : decode cX0_number 82 = .ok (.getfield 25, 3) := by decide +kernel
theorem dX0_number_85 : decode cX0_number 85 = .ok (.invokevirtual 90, 3) := by decide +kernel
theorem dX0_number_88 : decode cX0_number 88 = .ok (.ireturn, 1) := by decide +kernel
theorem dX0_number_89 : decode cX0_number 89 = .ok (.aload_n 0, 1) := by decide +kernel
theorem dX0_number_90 : decode cX0_number 90 = .ok (.getfield 25, 3) := by decide +kernel
theorem dX0_number_93 : decode cX0_number 93 = .ok (.invokevirtual 93, 3) := by decide +kernel
theorem dX0_number_96 : decode cX0_number 96 = .ok (.ireturn, 1) := by decide +kernel
theorem dX0_number_97 : decode cX0_number 97 = .ok (.aload_n 0, 1) := by decide +kernel
theorem dX0_number_98 : decode cX0_number 98 = .ok (.invokevirtual 96, 3) := by decide +kernel
theorem dX0_number_101 : decode cX0_number 101 = .ok (.ireturn, 1) := by decide +kernel
set_option maxRecDepth 20000 in
theorem ggX0_howServed_X5_contains : GoodIn wsX0_howServed wsX5_contains := goodIn_r _ [10] (by decide +kernel) (by decide +kernel)
set_option maxRecDepth 20000 in
theorem gX0_howServed_X5_contains_n49 : GoodIn wsX0_howServed (wsX5_contains) := ggX0_howServed_X5_contains
set_option maxRecDepth 20000 in
theorem ggX0_howServed_X3_placeOn : GoodIn wsX0_howServed wsX3_placeOn := goodIn_r _ [15, 16, 17, 18, 19, 20, 21, 14, 22, 41, 42, 43, 44, 45, 46, 47] (by decide +kernel) (by decide +kernel)
set_option maxRecDepth 20000 in
theorem gX0_howServed_X3_placeOn : GoodIn wsX0_howServed (wsV RX0 102 RX3 yX3_placeOn wsX3_placeOn) := goodIn_app (goodIn_of _ (by decide +kernel)) ggX0_howServed_X3_placeOn
set_option maxRecDepth 20000 in
theorem ggX0_howServed_X2_activeFeatures : GoodIn wsX0_howServed wsX2_activeFeatures := goodIn_r _ [27, 28, 29, 30, 31, 32, 26, 33, 34, 35, 36, 53, 54, 55, 56, 57, 58] (by decide +kernel) (by decide +kernel)
set_option maxRecDepth 20000 in
theorem gX0_howServed_X2_activeFeatures : GoodIn wsX0_howServed (wsV RX0 106 RX2 yX2_activeFeatures wsX2_activeFeatures) := goodIn_app (goodIn_of _ (by decide +kernel)) ggX0_howServed_X2_activeFeatures
theorem dX0_howServed_0 : decode cX0_howServed 0 = .ok (.aload_n 0, 1) := by decide +kernel
theorem dX0_howServed_1 : decode cX0_howServed 1 = .ok (.getfield 25, 3) := by decide +kernel
theorem dX0_howServed_4 : decode cX0_howServed 4 = .ok (.getfield 99, 3) := by decide +kernel
theorem dX0_howServed_7 : decode cX0_howServed 7 = .ok (.iload_n 1, 1) := by decide +kernel
theorem dX0_howServed_8 : decode cX0_howServed 8 = .ok (.iaload, 1) := by decide +kernel
theorem dX0_howServed_9 : decode cX0_howServed 9 = .ok (.iload_n 2, 1) := by decide +kernel
theorem dX0_howServed_10 : decode cX0_howServed 10 = .ok (.invokestatic 49, 3) := by decide +kernel
theorem dX0_howServed_13 : decode cX0_howServed 13 = .ok (.ifCond .ne 5, 3) := by decide +kernel
theorem dX0_howServed_16 : decode cX0_howServed 16 = .ok (.iconst 5, 1) := by decide +kernel
theorem dX0_howServed_17 : decode cX0_howServed 17 = .ok (.ireturn, 1) := by decide +kernel
theorem dX0_howServed_18 : decode cX0_howServed 18 = .ok (.aload_n 0, 1) := by decide +kernel
theorem dX0_howServed_19 : decode cX0_howServed 19 = .ok (.getfield 25, 3) := by decide +kernel
theorem dX0_howServed_22 : decode cX0_howServed 22 = .ok (.iload_n 1, 1) := by decide +kernel
theorem dX0_howServed_23 : decode cX0_howServed 23 = .ok (.iload_n 3, 1) := by decide +kernel
theorem dX0_howServed_24 : decode cX0_howServed 24 = .ok (.invokevirtual 102, 3) := by decide +kernel
theorem dX0_howServed_27 : decode cX0_howServed 27 = .ok (.istore 4, 2) := by decide +kernel
theorem dX0_howServed_29 : decode cX0_howServed 29 = .ok (.iload_n 3, 1) := by decide +kernel
theorem dX0_howServed_30 : decode cX0_howServed 30 = .ok (.aload_n 0, 1) := by decide +kernel
theorem dX0_howServed_31 : decode cX0_howServed 31 = .ok (.getfield 12, 3) := by decide +kernel
theorem dX0_howServed_34 : decode cX0_howServed 34 = .ok (.getfield 76, 3) := by decide +kernel
theorem dX0_howServed_37 : decode cX0_howServed 37 = .ok (.iload 4, 2) := by decide +kernel
theorem dX0_howServed_39 : decode cX0_howServed 39 = .ok (.iaload, 1) := by decide +kernel
theorem dX0_howServed_40 : decode cX0_howServed 40 = .ok (.if_icmp .ge 5, 3) := by decide +kernel
theorem dX0_howServed_43 : decode cX0_howServed 43 = .ok (.iconst 2, 1) := by decide +kernel
theorem dX0_howServed_44 : decode cX0_howServed 44 = .ok (.ireturn, 1) := by decide +kernel
theorem dX0_howServed_45 : decode cX0_howServed 45 = .ok (.iload_n 3, 1) := by decide +kernel
theorem dX0_howServed_46 : decode cX0_howServed 46 = .ok (.aload_n 0, 1) := by decide +kernel
theorem dX0_howServed_47 : decode cX0_howServed 47 = .ok (.getfield 12, 3) := by decide +kernel
theorem dX0_howServed_50 : decode cX0_howServed 50 = .ok (.getfield 72, 3) := by decide +kernel
theorem dX0_howServed_53 : decode cX0_howServed 53 = .ok (.iload 4, 2) := by decide +kernel
theorem dX0_howServed_55 : decode cX0_howServed 55 = .ok (.iaload, 1) := by decide +kernel
theorem dX0_howServed_56 : decode cX0_howServed 56 = .ok (.if_icmp .lt 5, 3) := by decide +kernel
theorem dX0_howServed_59 : decode cX0_howServed 59 = .ok (.iconst 3, 1) := by decide +kernel
theorem dX0_howServed_60 : decode cX0_howServed 60 = .ok (.ireturn, 1) := by decide +kernel
theorem dX0_howServed_61 : decode cX0_howServed 61 = .ok (.aload_n 0, 1) := by decide +kernel
theorem dX0_howServed_62 : decode cX0_howServed 62 = .ok (.getfield 12, 3) := by decide +kernel
theorem dX0_howServed_65 : decode cX0_howServed 65 = .ok (.getfield 53, 3) := by decide +kernel
theorem dX0_howServed_68 : decode cX0_howServed 68 = .ok (.iload 4, 2) := by decide +kernel
theorem dX0_howServed_70 : decode cX0_howServed 70 = .ok (.iaload, 1) := by decide +kernel
theorem dX0_howServed_71 : decode cX0_howServed 71 = .ok (.iload_n 2, 1) := by decide +kernel
theorem dX0_howServed_72 : decode cX0_howServed 72 = .ok (.invokestatic 49, 3) := by decide +kernel
theorem dX0_howServed_75 : decode cX0_howServed 75 = .ok (.ifCond .eq 5, 3) := by decide +kernel
theorem dX0_howServed_78 : decode cX0_howServed 78 = .ok (.iconst 0, 1) := by decide +kernel
theorem dX0_howServed_79 : decode cX0_howServed 79 = .ok (.ireturn, 1) := by decide +kernel
theorem dX0_howServed_80 : decode cX0_howServed 80 = .ok (.aload_n 0, 1) := by decide +kernel
theorem dX0_howServed_81 : decode cX0_howServed 81 = .ok (.getfield 32, 3) := by decide +kernel
theorem dX0_howServed_84 : decode cX0_howServed 84 = .ok (.iload 4, 2) := by decide +kernel
theorem dX0_howServed_86 : decode cX0_howServed 86 = .ok (.iload_n 3, 1) := by decide +kernel
theorem dX0_howServed_87 : decode cX0_howServed 87 = .ok (.invokevirtual 106, 3) := by decide +kernel
theorem dX0_howServed_90 : decode cX0_howServed 90 = .ok (.iload_n 2, 1) := by decide +kernel
theorem dX0_howServed_91 : decode cX0_howServed 91 = .ok (.invokestatic 49, 3) := by decide +kernel
theorem dX0_howServed_94 : decode cX0_howServed 94 = .ok (.ifCond .eq 7, 3) := by decide +kernel
theorem dX0_howServed_97 : decode cX0_howServed 97 = .ok (.iconst 1, 1) := by decide +kernel
theorem dX0_howServed_98 : decode cX0_howServed 98 = .ok (.goto 4, 3) := by decide +kernel
theorem dX0_howServed_101 : decode cX0_howServed 101 = .ok (.iconst 4, 1) := by decide +kernel
theorem dX0_howServed_102 : decode cX0_howServed 102 = .ok (.ireturn, 1) := by decide +kernel
set_option maxRecDepth 20000 in
theorem ggX0_unserved_X4_isAlive : GoodIn wsX0_unserved wsX4_isAlive := goodIn_r _ [8, 9, 10, 29, 30, 31, 32, 33] (by decide +kernel) (by decide +kernel)
set_option maxRecDepth 20000 in
theorem gX0_unserved_X4_isAlive : GoodIn wsX0_unserved (wsV RX0 109 RX4 yX4_isAlive wsX4_isAlive) := goodIn_app (goodIn_of _ (by decide +kernel)) ggX0_unserved_X4_isAlive
set_option maxRecDepth 20000 in
theorem ggX0_unserved_X2_activeFeatures : GoodIn wsX0_unserved wsX2_activeFeatures := goodIn_r _ [15, 16, 17, 18, 19, 20, 14, 21, 22, 23, 24, 34, 35, 36, 37, 38, 39] (by decide +kernel) (by decide +kernel)
set_option maxRecDepth 20000 in
theorem gX0_unserved_X2_activeFeatures : GoodIn wsX0_unserved (wsV RX0 106 RX2 yX2_activeFeatures wsX2_activeFeatures) := goodIn_app (goodIn_of _ (by decide +kernel)) ggX0_unserved_X2_activeFeatures
theorem dX0_unserved_0 : decode cX0_unserved 0 = .ok (.aload_n 0, 1) := by decide +kernel
theorem dX0_unserved_1 : decode cX0_unserved 1 = .ok (.getfield 12, 3) := by decide +kernel
theorem dX0_unserved_4 : decode cX0_unserved 4 = .ok (.iload_n 2, 1) := by decide +kernel
theorem dX0_unserved_5 : decode cX0_unserved 5 = .ok (.iload_n 3, 1) := by decide +kernel
theorem dX0_unserved_6 : decode cX0_unserved 6 = .ok (.invokevirtual 109, 3) := by decide +kernel
theorem dX0_unserved_9 : decode cX0_unserved 9 = .ok (.ifCond .ne 5, 3) := by decide +kernel
theorem dX0_unserved_12 : decode cX0_unserved 12 = .ok (.iload_n 1, 1) := by decide +kernel
theorem dX0_unserved_13 : decode cX0_unserved 13 = .ok (.ireturn, 1) := by decide +kernel
theorem dX0_unserved_14 : decode cX0_unserved 14 = .ok (.iload_n 1, 1) := by decide +kernel
theorem dX0_unserved_15 : decode cX0_unserved 15 = .ok (.aload_n 0, 1) := by decide +kernel
theorem dX0_unserved_16 : decode cX0_unserved 16 = .ok (.getfield 12, 3) := by decide +kernel
theorem dX0_unserved_19 : decode cX0_unserved 19 = .ok (.getfield 53, 3) := by decide +kernel
theorem dX0_unserved_22 : decode cX0_unserved 22 = .ok (.iload_n 2, 1) := by decide +kernel
theorem dX0_unserved_23 : decode cX0_unserved 23 = .ok (.iaload, 1) := by decide +kernel
theorem dX0_unserved_24 : decode cX0_unserved 24 = .ok (.aload_n 0, 1) := by decide +kernel
theorem dX0_unserved_25 : decode cX0_unserved 25 = .ok (.getfield 32, 3) := by decide +kernel
theorem dX0_unserved_28 : decode cX0_unserved 28 = .ok (.iload_n 2, 1) := by decide +kernel
theorem dX0_unserved_29 : decode cX0_unserved 29 = .ok (.iload_n 3, 1) := by decide +kernel
theorem dX0_unserved_30 : decode cX0_unserved 30 = .ok (.invokevirtual 106, 3) := by decide +kernel
theorem dX0_unserved_33 : decode cX0_unserved 33 = .ok (.ior, 1) := by decide +kernel
theorem dX0_unserved_34 : decode cX0_unserved 34 = .ok (.iconst (-1), 1) := by decide +kernel
theorem dX0_unserved_35 : decode cX0_unserved 35 = .ok (.ixor, 1) := by decide +kernel
theorem dX0_unserved_36 : decode cX0_unserved 36 = .ok (.iand, 1) := by decide +kernel
theorem dX0_unserved_37 : decode cX0_unserved 37 = .ok (.ireturn, 1) := by decide +kernel
set_option maxRecDepth 20000 in
theorem ggX0_unservedUses_X3_placeOn : GoodIn wsX0_unservedUses wsX3_placeOn := goodIn_r _ [7, 8, 9, 10, 11, 12, 13, 6, 14, 48, 49, 50, 51, 52, 53, 54] (by decide +kernel) (by decide +kernel)
set_option maxRecDepth 20000 in
theorem gX0_unservedUses_X3_placeOn : GoodIn wsX0_unservedUses (wsV RX0 102 RX3 yX3_placeOn wsX3_placeOn) := goodIn_app (goodIn_of _ (by decide +kernel)) ggX0_unservedUses_X3_placeOn
set_option maxRecDepth 20000 in
theorem ggX0_unservedUses_X0_unserved : GoodIn wsX0_unservedUses wsX0_unserved := goodIn_r _ [19, 20, 21, 22, 23, 24, 25, 26, 27, 28, 29, 30, 31, 32, 33, 34, 35, 36, 37, 38, 39, 40, 41, 42, 43, 44, 45, 46, 47, 55, 56, 57, 58, 59, 60, 61, 62, 63, 64, 65] (by decide +kernel) (by decide +kernel)
set_option maxRecDepth 20000 in
theorem gX0_unservedUses_X0_unserved : GoodIn wsX0_unservedUses (wsV RX0 112 RX0 yX0_unserved wsX0_unserved) := goodIn_app (goodIn_of _ (by decide +kernel)) ggX0_unservedUses_X0_unserved
theorem dX0_unservedUses_0 : decode cX0_unservedUses 0 = .ok (.aload_n 0, 1) := by decide +kernel
theorem dX0_unservedUses_1 : decode cX0_unservedUses 1 = .ok (.aload_n 0, 1) := by decide +kernel
theorem dX0_unservedUses_2 : decode cX0_unservedUses 2 = .ok (.getfield 25, 3) := by decide +kernel
theorem dX0_unservedUses_5 : decode cX0_unservedUses 5 = .ok (.getfield 99, 3) := by decide +kernel
theorem dX0_unservedUses_8 : decode cX0_unservedUses 8 = .ok (.iload_n 1, 1) := by decide +kernel
theorem dX0_unservedUses_9 : decode cX0_unservedUses 9 = .ok (.iaload, 1) := by decide +kernel
theorem dX0_unservedUses_10 : decode cX0_unservedUses 10 = .ok (.aload_n 0, 1) := by decide +kernel
theorem dX0_unservedUses_11 : decode cX0_unservedUses 11 = .ok (.getfield 25, 3) := by decide +kernel
theorem dX0_unservedUses_14 : decode cX0_unservedUses 14 = .ok (.iload_n 1, 1) := by decide +kernel
theorem dX0_unservedUses_15 : decode cX0_unservedUses 15 = .ok (.iload_n 2, 1) := by decide +kernel
theorem dX0_unservedUses_16 : decode cX0_unservedUses 16 = .ok (.invokevirtual 102, 3) := by decide +kernel
theorem dX0_unservedUses_19 : decode cX0_unservedUses 19 = .ok (.iload_n 2, 1) := by decide +kernel
theorem dX0_unservedUses_20 : decode cX0_unservedUses 20 = .ok (.invokevirtual 112, 3) := by decide +kernel
theorem dX0_unservedUses_23 : decode cX0_unservedUses 23 = .ok (.ireturn, 1) := by decide +kernel
set_option maxRecDepth 20000 in
theorem ggX0_unservedCount_X0_unservedUses : GoodIn wsX0_unservedCount wsX0_unservedUses := goodIn_r _ [7, 1, 8, 9, 10, 11, 12, 13, 14, 15, 16, 17, 18, 19, 20, 21, 22, 23, 6, 24, 25, 26, 27, 28, 29, 30, 31, 32, 33, 34, 35, 36, 37, 38, 39, 40, 41, 42, 43, 44, 45, 46, 47, 48, 56, 57, 58, 59, 60, 61, 62, 63, 64, 65, 66, 67, 68, 69, 70, 71, 72, 73, 74, 75, 76, 77] (by decide +kernel) (by decide +kernel)
set_option maxRecDepth 20000 in
theorem gX0_unservedCount_X0_unservedUses : GoodIn wsX0_unservedCount (wsV RX0 116 RX0 yX0_unservedUses wsX0_unservedUses) := goodIn_app (goodIn_of _ (by decide +kernel)) ggX0_unservedCount_X0_unservedUses
set_option maxRecDepth 20000 in
theorem ggX0_unservedCount_J6_bitCount_0f7a4 : GoodIn wsX0_unservedCount wsJ6_bitCount_0f7a4 := goodIn_r _ [52, 53, 54, 55] (by decide +kernel) (by decide +kernel)
set_option maxRecDepth 20000 in
theorem gX0_unservedCount_J6_bitCount_0f7a4 : GoodIn wsX0_unservedCount (va_wsS RX0 119 yJ6_bitCount_0f7a4 wsJ6_bitCount_0f7a4) := goodIn_app (goodIn_of _ (by decide +kernel)) ggX0_unservedCount_J6_bitCount_0f7a4
theorem dX0_unservedCount_0 : decode cX0_unservedCount 0 = .ok (.iconst 0, 1) := by decide +kernel
theorem dX0_unservedCount_1 : decode cX0_unservedCount 1 = .ok (.istore_n 2, 1) := by decide +kernel
theorem dX0_unservedCount_2 : decode cX0_unservedCount 2 = .ok (.iconst 0, 1) := by decide +kernel
theorem dX0_unservedCount_3 : decode cX0_unservedCount 3 = .ok (.istore_n 3, 1) := by decide +kernel
theorem dX0_unservedCount_4 : decode cX0_unservedCount 4 = .ok (.iload_n 3, 1) := by decide +kernel
theorem dX0_unservedCount_5 : decode cX0_unservedCount 5 = .ok (.aload_n 0, 1) := by decide +kernel
theorem dX0_unservedCount_6 : decode cX0_unservedCount 6 = .ok (.getfield 25, 3) := by decide +kernel
theorem dX0_unservedCount_9 : decode cX0_unservedCount 9 = .ok (.getfield 57, 3) := by decide +kernel
theorem dX0_unservedCount_12 : decode cX0_unservedCount 12 = .ok (.if_icmp .ge 21, 3) := by decide +kernel
theorem dX0_unservedCount_15 : decode cX0_unservedCount 15 = .ok (.iload_n 2, 1) := by decide +kernel
theorem dX0_unservedCount_16 : decode cX0_unservedCount 16 = .ok (.aload_n 0, 1) := by decide +kernel
theorem dX0_unservedCount_17 : decode cX0_unservedCount 17 = .ok (.iload_n 3, 1) := by decide +kernel
theorem dX0_unservedCount_18 : decode cX0_unservedCount 18 = .ok (.iload_n 1, 1) := by decide +kernel
theorem dX0_unservedCount_19 : decode cX0_unservedCount 19 = .ok (.invokevirtual 116, 3) := by decide +kernel
theorem dX0_unservedCount_22 : decode cX0_unservedCount 22 = .ok (.invokestatic 119, 3) := by decide +kernel
theorem dX0_unservedCount_25 : decode cX0_unservedCount 25 = .ok (.iadd, 1) := by decide +kernel
theorem dX0_unservedCount_26 : decode cX0_unservedCount 26 = .ok (.istore_n 2, 1) := by decide +kernel
theorem dX0_unservedCount_27 : decode cX0_unservedCount 27 = .ok (.iinc 3 1, 3) := by decide +kernel
theorem dX0_unservedCount_30 : decode cX0_unservedCount 30 = .ok (.goto (-26), 3) := by decide +kernel
theorem dX0_unservedCount_33 : decode cX0_unservedCount 33 = .ok (.iload_n 2, 1) := by decide +kernel
theorem dX0_unservedCount_34 : decode cX0_unservedCount 34 = .ok (.ireturn, 1) := by decide +kernel
set_option maxRecDepth 20000 in
theorem ggX0_strandedUsers_X0_unservedUses : GoodIn wsX0_strandedUsers wsX0_unservedUses := goodIn_r _ [7, 1, 8, 9, 10, 11, 12, 13, 14, 15, 16, 17, 18, 19, 20, 21, 22, 23, 6, 24, 25, 26, 27, 28, 29, 30, 31, 32, 33, 34, 35, 36, 37, 38, 39, 40, 41, 42, 43, 44, 45, 46, 47, 48, 49, 50, 51, 52, 53, 54, 55, 56, 57, 58, 59, 60, 61, 62, 63, 64, 65, 66, 67, 68, 69, 70] (by decide +kernel) (by decide +kernel)
set_option maxRecDepth 20000 in
theorem gX0_strandedUsers_X0_unservedUses : GoodIn wsX0_strandedUsers (wsV RX0 116 RX0 yX0_unservedUses wsX0_unservedUses) := goodIn_app (goodIn_of _ (by decide +kernel)) ggX0_strandedUsers_X0_unservedUses
theorem dX0_strandedUsers_0 : decode cX0_strandedUsers 0 = .ok (.iconst 0, 1) := by decide +kernel
theorem dX0_strandedUsers_1 : decode cX0_strandedUsers 1 = .ok (.istore_n 2, 1) := by decide +kernel
theorem dX0_strandedUsers_2 : decode cX0_strandedUsers 2 = .ok (.iconst 0, 1) := by decide +kernel
theorem dX0_strandedUsers_3 : decode cX0_strandedUsers 3 = .ok (.istore_n 3, 1) := by decide +kernel
theorem dX0_strandedUsers_4 : decode cX0_strandedUsers 4 = .ok (.iload_n 3, 1) := by decide +kernel
theorem dX0_strandedUsers_5 : decode cX0_strandedUsers 5 = .ok (.aload_n 0, 1) := by decide +kernel
theorem dX0_strandedUsers_6 : decode cX0_strandedUsers 6 = .ok (.getfield 25, 3) := by decide +kernel
theorem dX0_strandedUsers_9 : decode cX0_strandedUsers 9 = .ok (.getfield 57, 3) := by decide +kernel
theorem dX0_strandedUsers_12 : decode cX0_strandedUsers 12 = .ok (.if_icmp .ge 24, 3) := by decide +kernel
theorem dX0_strandedUsers_15 : decode cX0_strandedUsers 15 = .ok (.aload_n 0, 1) := by decide +kernel
theorem dX0_strandedUsers_16 : decode cX0_strandedUsers 16 = .ok (.iload_n 3, 1) := by decide +kernel
theorem dX0_strandedUsers_17 : decode cX0_strandedUsers 17 = .ok (.iload_n 1, 1) := by decide +kernel
theorem dX0_strandedUsers_18 : decode cX0_strandedUsers 18 = .ok (.invokevirtual 116, 3) := by decide +kernel
theorem dX0_strandedUsers_21 : decode cX0_strandedUsers 21 = .ok (.ifCond .eq 9, 3) := by decide +kernel
theorem dX0_strandedUsers_24 : decode cX0_strandedUsers 24 = .ok (.iload_n 2, 1) := by decide +kernel
theorem dX0_strandedUsers_25 : decode cX0_strandedUsers 25 = .ok (.iconst 1, 1) := by decide +kernel
theorem dX0_strandedUsers_26 : decode cX0_strandedUsers 26 = .ok (.iload_n 3, 1) := by decide +kernel
theorem dX0_strandedUsers_27 : decode cX0_strandedUsers 27 = .ok (.ishl, 1) := by decide +kernel
theorem dX0_strandedUsers_28 : decode cX0_strandedUsers 28 = .ok (.ior, 1) := by decide +kernel
theorem dX0_strandedUsers_29 : decode cX0_strandedUsers 29 = .ok (.istore_n 2, 1) := by decide +kernel
theorem dX0_strandedUsers_30 : decode cX0_strandedUsers 30 = .ok (.iinc 3 1, 3) := by decide +kernel
theorem dX0_strandedUsers_33 : decode cX0_strandedUsers 33 = .ok (.goto (-29), 3) := by decide +kernel
theorem dX0_strandedUsers_36 : decode cX0_strandedUsers 36 = .ok (.iload_n 2, 1) := by decide +kernel
theorem dX0_strandedUsers_37 : decode cX0_strandedUsers 37 = .ok (.ireturn, 1) := by decide +kernel
set_option maxRecDepth 20000 in
theorem ggX0_costOn_X4_isAlive : GoodIn wsX0_costOn wsX4_isAlive := goodIn_r _ [9, 10, 11, 34, 35, 36, 37, 38] (by decide +kernel) (by decide +kernel)
set_option maxRecDepth 20000 in
theorem gX0_costOn_X4_isAlive : GoodIn wsX0_costOn (wsV RX0 109 RX4 yX4_isAlive wsX4_isAlive) := goodIn_app (goodIn_of _ (by decide +kernel)) ggX0_costOn_X4_isAlive
set_option maxRecDepth 20000 in
theorem ggX0_costOn_X5_contains : GoodIn wsX0_costOn wsX5_contains := goodIn_r _ [14] (by decide +kernel) (by decide +kernel)
set_option maxRecDepth 20000 in
theorem gX0_costOn_X5_contains_n49 : GoodIn wsX0_costOn (wsX5_contains) := ggX0_costOn_X5_contains
set_option maxRecDepth 20000 in
theorem ggX0_costOn_X2_lowestPrice : GoodIn wsX0_costOn wsX2_lowestPrice := goodIn_r _ [19, 20, 21, 22, 23, 24, 25, 18, 26, 27, 28, 29, 39, 40, 41, 42, 43, 44] (by decide +kernel) (by decide +kernel)
set_option maxRecDepth 20000 in
theorem gX0_costOn_X2_lowestPrice : GoodIn wsX0_costOn (wsV RX0 124 RX2 yX2_lowestPrice wsX2_lowestPrice) := goodIn_app (goodIn_of _ (by decide +kernel)) ggX0_costOn_X2_lowestPrice
theorem dX0_costOn_0 : decode cX0_costOn 0 = .ok (.aload_n 0, 1) := by decide +kernel
theorem dX0_costOn_1 : decode cX0_costOn 1 = .ok (.getfield 12, 3) := by decide +kernel
theorem dX0_costOn_4 : decode cX0_costOn 4 = .ok (.iload_n 2, 1) := by decide +kernel
theorem dX0_costOn_5 : decode cX0_costOn 5 = .ok (.iload_n 3, 1) := by decide +kernel
theorem dX0_costOn_6 : decode cX0_costOn 6 = .ok (.invokevirtual 109, 3) := by decide +kernel
theorem dX0_costOn_9 : decode cX0_costOn 9 = .ok (.ifCond .ne 5, 3) := by decide +kernel
theorem dX0_costOn_12 : decode cX0_costOn 12 = .ok (.iconst 0, 1) := by decide +kernel
theorem dX0_costOn_13 : decode cX0_costOn 13 = .ok (.ireturn, 1) := by decide +kernel
theorem dX0_costOn_14 : decode cX0_costOn 14 = .ok (.iload_n 1, 1) := by decide +kernel
theorem dX0_costOn_15 : decode cX0_costOn 15 = .ok (.aload_n 0, 1) := by decide +kernel
theorem dX0_costOn_16 : decode cX0_costOn 16 = .ok (.getfield 12, 3) := by decide +kernel
theorem dX0_costOn_19 : decode cX0_costOn 19 = .ok (.getfield 53, 3) := by decide +kernel
theorem dX0_costOn_22 : decode cX0_costOn 22 = .ok (.iload_n 2, 1) := by decide +kernel
theorem dX0_costOn_23 : decode cX0_costOn 23 = .ok (.iaload, 1) := by decide +kernel
theorem dX0_costOn_24 : decode cX0_costOn 24 = .ok (.iconst (-1), 1) := by decide +kernel
theorem dX0_costOn_25 : decode cX0_costOn 25 = .ok (.ixor, 1) := by decide +kernel
theorem dX0_costOn_26 : decode cX0_costOn 26 = .ok (.iand, 1) := by decide +kernel
theorem dX0_costOn_27 : decode cX0_costOn 27 = .ok (.istore 4, 2) := by decide +kernel
theorem dX0_costOn_29 : decode cX0_costOn 29 = .ok (.iconst 0, 1) := by decide +kernel
theorem dX0_costOn_30 : decode cX0_costOn 30 = .ok (.istore 5, 2) := by decide +kernel
theorem dX0_costOn_32 : decode cX0_costOn 32 = .ok (.iconst 0, 1) := by decide +kernel
theorem dX0_costOn_33 : decode cX0_costOn 33 = .ok (.istore 6, 2) := by decide +kernel
theorem dX0_costOn_35 : decode cX0_costOn 35 = .ok (.iload 6, 2) := by decide +kernel
theorem dX0_costOn_37 : decode cX0_costOn 37 = .ok (.aload_n 0, 1) := by decide +kernel
theorem dX0_costOn_38 : decode cX0_costOn 38 = .ok (.getfield 18, 3) := by decide +kernel
theorem dX0_costOn_41 : decode cX0_costOn 41 = .ok (.if_icmp .ge 35, 3) := by decide +kernel
theorem dX0_costOn_44 : decode cX0_costOn 44 = .ok (.iload 4, 2) := by decide +kernel
theorem dX0_costOn_46 : decode cX0_costOn 46 = .ok (.iload 6, 2) := by decide +kernel
theorem dX0_costOn_48 : decode cX0_costOn 48 = .ok (.invokestatic 49, 3) := by decide +kernel
theorem dX0_costOn_51 : decode cX0_costOn 51 = .ok (.ifCond .eq 19, 3) := by decide +kernel
theorem dX0_costOn_54 : decode cX0_costOn 54 = .ok (.iload 5, 2) := by decide +kernel
theorem dX0_costOn_56 : decode cX0_costOn 56 = .ok (.aload_n 0, 1) := by decide +kernel
theorem dX0_costOn_57 : decode cX0_costOn 57 = .ok (.getfield 32, 3) := by decide +kernel
theorem dX0_costOn_60 : decode cX0_costOn 60 = .ok (.iload 6, 2) := by decide +kernel
theorem dX0_costOn_62 : decode cX0_costOn 62 = .ok (.iload_n 2, 1) := by decide +kernel
theorem dX0_costOn_63 : decode cX0_costOn 63 = .ok (.iload_n 3, 1) := by decide +kernel
theorem dX0_costOn_64 : decode cX0_costOn 64 = .ok (.invokevirtual 124, 3) := by decide +kernel
theorem dX0_costOn_67 : decode cX0_costOn 67 = .ok (.iadd, 1) := by decide +kernel
theorem dX0_costOn_68 : decode cX0_costOn 68 = .ok (.istore 5, 2) := by decide +kernel
theorem dX0_costOn_70 : decode cX0_costOn 70 = .ok (.iinc 6 1, 3) := by decide +kernel
theorem dX0_costOn_73 : decode cX0_costOn 73 = .ok (.goto (-38), 3) := by decide +kernel
theorem dX0_costOn_76 : decode cX0_costOn 76 = .ok (.iload 5, 2) := by decide +kernel
theorem dX0_costOn_78 : decode cX0_costOn 78 = .ok (.ireturn, 1) := by decide +kernel
set_option maxRecDepth 20000 in
theorem ggX0_costOfAllOn_X3_placeOn : GoodIn wsX0_costOfAllOn wsX3_placeOn := goodIn_r _ [8, 9, 10, 11, 12, 13, 14, 7, 15, 54, 55, 56, 57, 58, 59, 60] (by decide +kernel) (by decide +kernel)
set_option maxRecDepth 20000 in
theorem gX0_costOfAllOn_X3_placeOn : GoodIn wsX0_costOfAllOn (wsV RX0 102 RX3 yX3_placeOn wsX3_placeOn) := goodIn_app (goodIn_of _ (by decide +kernel)) ggX0_costOfAllOn_X3_placeOn
set_option maxRecDepth 20000 in
theorem ggX0_costOfAllOn_X0_costOn : GoodIn wsX0_costOfAllOn wsX0_costOn := goodIn_r _ [20, 21, 22, 23, 24, 25, 26, 27, 28, 29, 30, 31, 32, 33, 34, 35, 36, 37, 38, 39, 40, 41, 42, 43, 44, 45, 46, 47, 48, 49, 50, 51, 52, 53, 61, 62, 63, 64, 65, 66, 67, 68, 69, 70, 71] (by decide +kernel) (by decide +kernel)
set_option maxRecDepth 20000 in
theorem gX0_costOfAllOn_X0_costOn : GoodIn wsX0_costOfAllOn (wsV RX0 127 RX0 yX0_costOn wsX0_costOn) := goodIn_app (goodIn_of _ (by decide +kernel)) ggX0_costOfAllOn_X0_costOn
theorem dX0_costOfAllOn_0 : decode cX0_costOfAllOn 0 = .ok (.iconst 0, 1) := by decide +kernel
theorem dX0_costOfAllOn_1 : decode cX0_costOfAllOn 1 = .ok (.istore_n 2, 1) := by decide +kernel
theorem dX0_costOfAllOn_2 : decode cX0_costOfAllOn 2 = .ok (.iconst 0, 1) := by decide +kernel
theorem dX0_costOfAllOn_3 : decode cX0_costOfAllOn 3 = .ok (.istore_n 3, 1) := by decide +kernel
theorem dX0_costOfAllOn_4 : decode cX0_costOfAllOn 4 = .ok (.iload_n 3, 1) := by decide +kernel
theorem dX0_costOfAllOn_5 : decode cX0_costOfAllOn 5 = .ok (.aload_n 0, 1) := by decide +kernel
theorem dX0_costOfAllOn_6 : decode cX0_costOfAllOn 6 = .ok (.getfield 25, 3) := by decide +kernel
theorem dX0_costOfAllOn_9 : decode cX0_costOfAllOn 9 = .ok (.getfield 57, 3) := by decide +kernel
theorem dX0_costOfAllOn_12 : decode cX0_costOfAllOn 12 = .ok (.if_icmp .ge 35, 3) := by decide +kernel
theorem dX0_costOfAllOn_15 : decode cX0_costOfAllOn 15 = .ok (.iload_n 2, 1) := by decide +kernel
theorem dX0_costOfAllOn_16 : decode cX0_costOfAllOn 16 = .ok (.aload_n 0, 1) := by decide +kernel
theorem dX0_costOfAllOn_17 : decode cX0_costOfAllOn 17 = .ok (.aload_n 0, 1) := by decide +kernel
theorem dX0_costOfAllOn_18 : decode cX0_costOfAllOn 18 = .ok (.getfield 25, 3) := by decide +kernel
theorem dX0_costOfAllOn_21 : decode cX0_costOfAllOn 21 = .ok (.getfield 99, 3) := by decide +kernel
theorem dX0_costOfAllOn_24 : decode cX0_costOfAllOn 24 = .ok (.iload_n 3, 1) := by decide +kernel
theorem dX0_costOfAllOn_25 : decode cX0_costOfAllOn 25 = .ok (.iaload, 1) := by decide +kernel
theorem dX0_costOfAllOn_26 : decode cX0_costOfAllOn 26 = .ok (.aload_n 0, 1) := by decide +kernel
theorem dX0_costOfAllOn_27 : decode cX0_costOfAllOn 27 = .ok (.getfield 25, 3) := by decide +kernel
theorem dX0_costOfAllOn_30 : decode cX0_costOfAllOn 30 = .ok (.iload_n 3, 1) := by decide +kernel
theorem dX0_costOfAllOn_31 : decode cX0_costOfAllOn 31 = .ok (.iload_n 1, 1) := by decide +kernel
theorem dX0_costOfAllOn_32 : decode cX0_costOfAllOn 32 = .ok (.invokevirtual 102, 3) := by decide +kernel
theorem dX0_costOfAllOn_35 : decode cX0_costOfAllOn 35 = .ok (.iload_n 1, 1) := by decide +kernel
theorem dX0_costOfAllOn_36 : decode cX0_costOfAllOn 36 = .ok (.invokevirtual 127, 3) := by decide +kernel
theorem dX0_costOfAllOn_39 : decode cX0_costOfAllOn 39 = .ok (.iadd, 1) := by decide +kernel
theorem dX0_costOfAllOn_40 : decode cX0_costOfAllOn 40 = .ok (.istore_n 2, 1) := by decide +kernel
theorem dX0_costOfAllOn_41 : decode cX0_costOfAllOn 41 = .ok (.iinc 3 1, 3) := by decide +kernel
theorem dX0_costOfAllOn_44 : decode cX0_costOfAllOn 44 = .ok (.goto (-40), 3) := by decide +kernel
theorem dX0_costOfAllOn_47 : decode cX0_costOfAllOn 47 = .ok (.iload_n 2, 1) := by decide +kernel
theorem dX0_costOfAllOn_48 : decode cX0_costOfAllOn 48 = .ok (.ireturn, 1) := by decide +kernel
set_option maxRecDepth 20000 in
theorem ggX0_pairsLacking_X4_isAlive : GoodIn wsX0_pairsLacking wsX4_isAlive := goodIn_r _ [7, 8, 9, 65, 66, 67, 68, 69] (by decide +kernel) (by decide +kernel)
set_option maxRecDepth 20000 in
theorem gX0_pairsLacking_X4_isAlive : GoodIn wsX0_pairsLacking (wsV RX0 109 RX4 yX4_isAlive wsX4_isAlive) := goodIn_app (goodIn_of _ (by decide +kernel)) ggX0_pairsLacking_X4_isAlive
set_option maxRecDepth 20000 in
theorem ggX0_pairsLacking_X0_lackingOn : GoodIn wsX0_pairsLacking wsX0_lackingOn := goodIn_r _ [14, 15, 16, 17, 18, 19, 20, 21, 22, 23, 24, 25, 26, 27, 28, 29, 30, 31, 13, 32, 33, 34, 35, 36, 37, 1, 38, 39, 3, 4, 5, 6, 7, 8, 9, 40, 41, 42, 43, 44, 45, 46, 47, 48, 49, 50, 51, 52, 53, 61, 62, 63, 64, 70, 71, 72, 73, 74, 75, 76, 65, 66, 67, 68, 69, 77, 78, 79, 80, 81, 82] (by decide +kernel) (by decide +kernel)
set_option maxRecDepth 20000 in
theorem gX0_pairsLacking_X0_lackingOn : GoodIn wsX0_pairsLacking (wsV RX0 130 RX0 yX0_lackingOn wsX0_lackingOn) := goodIn_app (goodIn_of _ (by decide +kernel)) ggX0_pairsLacking_X0_lackingOn
set_option maxRecDepth 20000 in
theorem ggX0_pairsLacking_J6_bitCount_0f7a4 : GoodIn wsX0_pairsLacking wsJ6_bitCount_0f7a4 := goodIn_r _ [57, 58, 59, 60] (by decide +kernel) (by decide +kernel)
set_option maxRecDepth 20000 in
theorem gX0_pairsLacking_J6_bitCount_0f7a4 : GoodIn wsX0_pairsLacking (va_wsS RX0 119 yJ6_bitCount_0f7a4 wsJ6_bitCount_0f7a4) := goodIn_app (goodIn_of _ (by decide +kernel)) ggX0_pairsLacking_J6_bitCount_0f7a4
theorem dX0_pairsLacking_0 : decode cX0_pairsLacking 0 = .ok (.iconst 0, 1) := by decide +kernel
theorem dX0_pairsLacking_1 : decode cX0_pairsLacking 1 = .ok (.istore_n 2, 1) := by decide +kernel
theorem dX0_pairsLacking_2 : decode cX0_pairsLacking 2 = .ok (.iconst 0, 1) := by decide +kernel
theorem dX0_pairsLacking_3 : decode cX0_pairsLacking 3 = .ok (.istore_n 3, 1) := by decide +kernel
theorem dX0_pairsLacking_4 : decode cX0_pairsLacking 4 = .ok (.iload_n 3, 1) := by decide +kernel
theorem dX0_pairsLacking_5 : decode cX0_pairsLacking 5 = .ok (.aload_n 0, 1) := by decide +kernel
theorem dX0_pairsLacking_6 : decode cX0_pairsLacking 6 = .ok (.getfield 12, 3) := by decide +kernel
theorem dX0_pairsLacking_9 : decode cX0_pairsLacking 9 = .ok (.getfield 46, 3) := by decide +kernel
theorem dX0_pairsLacking_12 : decode cX0_pairsLacking 12 = .ok (.if_icmp .ge 33, 3) := by decide +kernel
theorem dX0_pairsLacking_15 : decode cX0_pairsLacking 15 = .ok (.aload_n 0, 1) := by decide +kernel
theorem dX0_pairsLacking_16 : decode cX0_pairsLacking 16 = .ok (.getfield 12, 3) := by decide +kernel
theorem dX0_pairsLacking_19 : decode cX0_pairsLacking 19 = .ok (.iload_n 3, 1) := by decide +kernel
theorem dX0_pairsLacking_20 : decode cX0_pairsLacking 20 = .ok (.iload_n 1, 1) := by decide +kernel
theorem dX0_pairsLacking_21 : decode cX0_pairsLacking 21 = .ok (.invokevirtual 109, 3) := by decide +kernel
theorem dX0_pairsLacking_24 : decode cX0_pairsLacking 24 = .ok (.ifCond .eq 15, 3) := by decide +kernel
theorem dX0_pairsLacking_27 : decode cX0_pairsLacking 27 = .ok (.iload_n 2, 1) := by decide +kernel
theorem dX0_pairsLacking_28 : decode cX0_pairsLacking 28 = .ok (.aload_n 0, 1) := by decide +kernel
theorem dX0_pairsLacking_29 : decode cX0_pairsLacking 29 = .ok (.iload_n 3, 1) := by decide +kernel
theorem dX0_pairsLacking_30 : decode cX0_pairsLacking 30 = .ok (.iload_n 1, 1) := by decide +kernel
theorem dX0_pairsLacking_31 : decode cX0_pairsLacking 31 = .ok (.invokevirtual 130, 3) := by decide +kernel
theorem dX0_pairsLacking_34 : decode cX0_pairsLacking 34 = .ok (.invokestatic 119, 3) := by decide +kernel
theorem dX0_pairsLacking_37 : decode cX0_pairsLacking 37 = .ok (.iadd, 1) := by decide +kernel
theorem dX0_pairsLacking_38 : decode cX0_pairsLacking 38 = .ok (.istore_n 2, 1) := by decide +kernel
theorem dX0_pairsLacking_39 : decode cX0_pairsLacking 39 = .ok (.iinc 3 1, 3) := by decide +kernel
theorem dX0_pairsLacking_42 : decode cX0_pairsLacking 42 = .ok (.goto (-38), 3) := by decide +kernel
theorem dX0_pairsLacking_45 : decode cX0_pairsLacking 45 = .ok (.iload_n 2, 1) := by decide +kernel
theorem dX0_pairsLacking_46 : decode cX0_pairsLacking 46 = .ok (.ireturn, 1) := by decide +kernel
set_option maxRecDepth 20000 in
theorem ggX0_lackingOn_X3_placeOn : GoodIn wsX0_lackingOn wsX3_placeOn := goodIn_r _ [7, 8, 9, 10, 11, 12, 13, 6, 14, 53, 54, 55, 56, 57, 58, 59] (by decide +kernel) (by decide +kernel)
set_option maxRecDepth 20000 in
theorem gX0_lackingOn_X3_placeOn : GoodIn wsX0_lackingOn (wsV RX0 102 RX3 yX3_placeOn wsX3_placeOn) := goodIn_app (goodIn_of _ (by decide +kernel)) ggX0_lackingOn_X3_placeOn
set_option maxRecDepth 20000 in
theorem ggX0_lackingOn_X0_unservedUses : GoodIn wsX0_lackingOn wsX0_unservedUses := goodIn_r _ [19, 1, 20, 3, 4, 5, 6, 7, 8, 9, 10, 11, 12, 13, 14, 21, 22, 23, 18, 24, 25, 26, 27, 28, 29, 30, 31, 32, 33, 34, 35, 36, 37, 38, 39, 40, 41, 42, 43, 44, 45, 46, 47, 48, 49, 50, 51, 52, 53, 54, 55, 56, 57, 58, 59, 60, 61, 62, 63, 64, 65, 66, 67, 68, 69, 70] (by decide +kernel) (by decide +kernel)
set_option maxRecDepth 20000 in
theorem gX0_lackingOn_X0_unservedUses : GoodIn wsX0_lackingOn (wsV RX0 116 RX0 yX0_unservedUses wsX0_unservedUses) := goodIn_app (goodIn_of _ (by decide +kernel)) ggX0_lackingOn_X0_unservedUses
theorem dX0_lackingOn_0 : decode cX0_lackingOn 0 = .ok (.iconst 0, 1) := by decide +kernel
theorem dX0_lackingOn_1 : decode cX0_lackingOn 1 = .ok (.istore_n 3, 1) := by decide +kernel
theorem dX0_lackingOn_2 : decode cX0_lackingOn 2 = .ok (.iconst 0, 1) := by decide +kernel
theorem dX0_lackingOn_3 : decode cX0_lackingOn 3 = .ok (.istore 4, 2) := by decide +kernel
theorem dX0_lackingOn_5 : decode cX0_lackingOn 5 = .ok (.iload 4, 2) := by decide +kernel
theorem dX0_lackingOn_7 : decode cX0_lackingOn 7 = .ok (.aload_n 0, 1) := by decide +kernel
theorem dX0_lackingOn_8 : decode cX0_lackingOn 8 = .ok (.getfield 25, 3) := by decide +kernel
theorem dX0_lackingOn_11 : decode cX0_lackingOn 11 = .ok (.getfield 57, 3) := by decide +kernel
theorem dX0_lackingOn_14 : decode cX0_lackingOn 14 = .ok (.if_icmp .ge 33, 3) := by decide +kernel
theorem dX0_lackingOn_17 : decode cX0_lackingOn 17 = .ok (.aload_n 0, 1) := by decide +kernel
theorem dX0_lackingOn_18 : decode cX0_lackingOn 18 = .ok (.getfield 25, 3) := by decide +kernel
theorem dX0_lackingOn_21 : decode cX0_lackingOn 21 = .ok (.iload 4, 2) := by decide +kernel
theorem dX0_lackingOn_23 : decode cX0_lackingOn 23 = .ok (.iload_n 2, 1) := by decide +kernel
theorem dX0_lackingOn_24 : decode cX0_lackingOn 24 = .ok (.invokevirtual 102, 3) := by decide +kernel
theorem dX0_lackingOn_27 : decode cX0_lackingOn 27 = .ok (.iload_n 1, 1) := by decide +kernel
theorem dX0_lackingOn_28 : decode cX0_lackingOn 28 = .ok (.if_icmp .ne 13, 3) := by decide +kernel
theorem dX0_lackingOn_31 : decode cX0_lackingOn 31 = .ok (.iload_n 3, 1) := by decide +kernel
theorem dX0_lackingOn_32 : decode cX0_lackingOn 32 = .ok (.aload_n 0, 1) := by decide +kernel
theorem dX0_lackingOn_33 : decode cX0_lackingOn 33 = .ok (.iload 4, 2) := by decide +kernel
theorem dX0_lackingOn_35 : decode cX0_lackingOn 35 = .ok (.iload_n 2, 1) := by decide +kernel
theorem dX0_lackingOn_36 : decode cX0_lackingOn 36 = .ok (.invokevirtual 116, 3) := by decide +kernel
theorem dX0_lackingOn_39 : decode cX0_lackingOn 39 = .ok (.ior, 1) := by decide +kernel
theorem dX0_lackingOn_40 : decode cX0_lackingOn 40 = .ok (.istore_n 3, 1) := by decide +kernel
theorem dX0_lackingOn_41 : decode cX0_lackingOn 41 = .ok (.iinc 4 1, 3) := by decide +kernel
theorem dX0_lackingOn_44 : decode cX0_lackingOn 44 = .ok (.goto (-39), 3) := by decide +kernel
theorem dX0_lackingOn_47 : decode cX0_lackingOn 47 = .ok (.iload_n 3, 1) := by decide +kernel
theorem dX0_lackingOn_48 : decode cX0_lackingOn 48 = .ok (.ireturn, 1) := by decide +kernel
set_option maxRecDepth 20000 in
theorem ggX0_versionServingMost_X0_unserved : GoodIn wsX0_versionServingMost wsX0_unserved := goodIn_r _ [7, 1, 8, 9, 10, 11, 12, 13, 14, 15, 16, 17, 18, 19, 20, 21, 22, 23, 24, 25, 26, 27, 28, 29, 30, 38, 39, 40, 41, 42, 43, 44, 45, 46, 47, 48, 49, 50, 51, 52] (by decide +kernel) (by decide +kernel)
set_option maxRecDepth 20000 in
theorem gX0_versionServingMost_X0_unserved : GoodIn wsX0_versionServingMost (wsV RX0 112 RX0 yX0_unserved wsX0_unserved) := goodIn_app (goodIn_of _ (by decide +kernel)) ggX0_versionServingMost_X0_unserved
set_option maxRecDepth 20000 in
theorem ggX0_versionServingMost_J6_bitCount_0f7a4 : GoodIn wsX0_versionServingMost wsJ6_bitCount_0f7a4 := goodIn_r _ [34, 35, 36, 37] (by decide +kernel) (by decide +kernel)
set_option maxRecDepth 20000 in
theorem gX0_versionServingMost_J6_bitCount_0f7a4 : GoodIn wsX0_versionServingMost (va_wsS RX0 119 yJ6_bitCount_0f7a4 wsJ6_bitCount_0f7a4) := goodIn_app (goodIn_of _ (by decide +kernel)) ggX0_versionServingMost_J6_bitCount_0f7a4
set_option maxRecDepth 20000 in
theorem ggX0_versionServingMost_X4_isAlive : GoodIn wsX0_versionServingMost wsX4_isAlive := goodIn_r _ [14, 15, 16, 42, 43, 44, 45, 46] (by decide +kernel) (by decide +kernel)
set_option maxRecDepth 20000 in
theorem gX0_versionServingMost_X4_isAlive : GoodIn wsX0_versionServingMost (wsV RX0 109 RX4 yX4_isAlive wsX4_isAlive) := goodIn_app (goodIn_of _ (by decide +kernel)) ggX0_versionServingMost_X4_isAlive
theorem dX0_versionServingMost_0 : decode cX0_versionServingMost 0 = .ok (.iconst (-1), 1) := by decide +kernel
theorem dX0_versionServingMost_1 : decode cX0_versionServingMost 1 = .ok (.istore_n 3, 1) := by decide +kernel
theorem dX0_versionServingMost_2 : decode cX0_versionServingMost 2 = .ok (.iconst 0, 1) := by decide +kernel
theorem dX0_versionServingMost_3 : decode cX0_versionServingMost 3 = .ok (.istore 4, 2) := by decide +kernel
theorem dX0_versionServingMost_5 : decode cX0_versionServingMost 5 = .ok (.iconst 0, 1) := by decide +kernel
theorem dX0_versionServingMost_6 : decode cX0_versionServingMost 6 = .ok (.istore 5, 2) := by decide +kernel
theorem dX0_versionServingMost_8 : decode cX0_versionServingMost 8 = .ok (.iload 5, 2) := by decide +kernel
theorem dX0_versionServingMost_10 : decode cX0_versionServingMost 10 = .ok (.aload_n 0, 1) := by decide +kernel
theorem dX0_versionServingMost_11 : decode cX0_versionServingMost 11 = .ok (.getfield 12, 3) := by decide +kernel
theorem dX0_versionServingMost_14 : decode cX0_versionServingMost 14 = .ok (.getfield 46, 3) := by decide +kernel
theorem dX0_versionServingMost_17 : decode cX0_versionServingMost 17 = .ok (.if_icmp .ge 54, 3) := by decide +kernel
theorem dX0_versionServingMost_20 : decode cX0_versionServingMost 20 = .ok (.aload_n 0, 1) := by decide +kernel
theorem dX0_versionServingMost_21 : decode cX0_versionServingMost 21 = .ok (.iload_n 1, 1) := by decide +kernel
theorem dX0_versionServingMost_22 : decode cX0_versionServingMost 22 = .ok (.iload 5, 2) := by decide +kernel
theorem dX0_versionServingMost_24 : decode cX0_versionServingMost 24 = .ok (.iload_n 2, 1) := by decide +kernel
theorem dX0_versionServingMost_25 : decode cX0_versionServingMost 25 = .ok (.invokevirtual 112, 3) := by decide +kernel
theorem dX0_versionServingMost_28 : decode cX0_versionServingMost 28 = .ok (.invokestatic 119, 3) := by decide +kernel
theorem dX0_versionServingMost_31 : decode cX0_versionServingMost 31 = .ok (.istore 6, 2) := by decide +kernel
theorem dX0_versionServingMost_33 : decode cX0_versionServingMost 33 = .ok (.aload_n 0, 1) := by decide +kernel
theorem dX0_versionServingMost_34 : decode cX0_versionServingMost 34 = .ok (.getfield 12, 3) := by decide +kernel
theorem dX0_versionServingMost_37 : decode cX0_versionServingMost 37 = .ok (.iload 5, 2) := by decide +kernel
theorem dX0_versionServingMost_39 : decode cX0_versionServingMost 39 = .ok (.iload_n 2, 1) := by decide +kernel
theorem dX0_versionServingMost_40 : decode cX0_versionServingMost 40 = .ok (.invokevirtual 109, 3) := by decide +kernel
theorem dX0_versionServingMost_43 : decode cX0_versionServingMost 43 = .ok (.ifCond .eq 22, 3) := by decide +kernel
theorem dX0_versionServingMost_46 : decode cX0_versionServingMost 46 = .ok (.iload_n 3, 1) := by decide +kernel
theorem dX0_versionServingMost_47 : decode cX0_versionServingMost 47 = .ok (.iconst (-1), 1) := by decide +kernel
theorem dX0_versionServingMost_48 : decode cX0_versionServingMost 48 = .ok (.if_icmp .eq 10, 3) := by decide +kernel
theorem dX0_versionServingMost_51 : decode cX0_versionServingMost 51 = .ok (.iload 6, 2) := by decide +kernel
theorem dX0_versionServingMost_53 : decode cX0_versionServingMost 53 = .ok (.iload 4, 2) := by decide +kernel
theorem dX0_versionServingMost_55 : decode cX0_versionServingMost 55 = .ok (.if_icmp .ge 10, 3) := by decide +kernel
theorem dX0_versionServingMost_58 : decode cX0_versionServingMost 58 = .ok (.iload 5, 2) := by decide +kernel
theorem dX0_versionServingMost_60 : decode cX0_versionServingMost 60 = .ok (.istore_n 3, 1) := by decide +kernel
theorem dX0_versionServingMost_61 : decode cX0_versionServingMost 61 = .ok (.iload 6, 2) := by decide +kernel
theorem dX0_versionServingMost_63 : decode cX0_versionServingMost 63 = .ok (.istore 4, 2) := by decide +kernel
theorem dX0_versionServingMost_65 : decode cX0_versionServingMost 65 = .ok (.iinc 5 1, 3) := by decide +kernel
theorem dX0_versionServingMost_68 : decode cX0_versionServingMost 68 = .ok (.goto (-60), 3) := by decide +kernel
theorem dX0_versionServingMost_71 : decode cX0_versionServingMost 71 = .ok (.iload_n 3, 1) := by decide +kernel
theorem dX0_versionServingMost_72 : decode cX0_versionServingMost 72 = .ok (.ireturn, 1) := by decide +kernel
set_option maxRecDepth 20000 in
theorem ggX0_nextChange_X0_earlier : GoodIn wsX0_nextChange wsX0_earlier := goodIn_r _ [15] (by decide +kernel) (by decide +kernel)
set_option maxRecDepth 20000 in
theorem gX0_nextChange_X0_earlier : GoodIn wsX0_nextChange (va_wsS RX0 133 yX0_earlier wsX0_earlier) := goodIn_app (goodIn_of _ (by decide +kernel)) ggX0_nextChange_X0_earlier
theorem dX0_nextChange_0 : decode cX0_nextChange 0 = .ok (.sipush 1000, 3) := by decide +kernel
theorem dX0_nextChange_3 : decode cX0_nextChange 3 = .ok (.istore_n 2, 1) := by decide +kernel
theorem dX0_nextChange_4 : decode cX0_nextChange 4 = .ok (.iconst 0, 1) := by decide +kernel
theorem dX0_nextChange_5 : decode cX0_nextChange 5 = .ok (.istore_n 3, 1) := by decide +kernel
theorem dX0_nextChange_6 : decode cX0_nextChange 6 = .ok (.iload_n 3, 1) := by decide +kernel
theorem dX0_nextChange_7 : decode cX0_nextChange 7 = .ok (.aload_n 0, 1) := by decide +kernel
theorem dX0_nextChange_8 : decode cX0_nextChange 8 = .ok (.getfield 12, 3) := by decide +kernel
theorem dX0_nextChange_11 : decode cX0_nextChange 11 = .ok (.getfield 46, 3) := by decide +kernel
theorem dX0_nextChange_14 : decode cX0_nextChange 14 = .ok (.if_icmp .ge 39, 3) := by decide +kernel
theorem dX0_nextChange_17 : decode cX0_nextChange 17 = .ok (.iload_n 2, 1) := by decide +kernel
theorem dX0_nextChange_18 : decode cX0_nextChange 18 = .ok (.aload_n 0, 1) := by decide +kernel
theorem dX0_nextChange_19 : decode cX0_nextChange 19 = .ok (.getfield 12, 3) := by decide +kernel
theorem dX0_nextChange_22 : decode cX0_nextChange 22 = .ok (.getfield 76, 3) := by decide +kernel
theorem dX0_nextChange_25 : decode cX0_nextChange 25 = .ok (.iload_n 3, 1) := by decide +kernel
theorem dX0_nextChange_26 : decode cX0_nextChange 26 = .ok (.iaload, 1) := by decide +kernel
theorem dX0_nextChange_27 : decode cX0_nextChange 27 = .ok (.iload_n 1, 1) := by decide +kernel
theorem dX0_nextChange_28 : decode cX0_nextChange 28 = .ok (.invokestatic 133, 3) := by decide +kernel
theorem dX0_nextChange_31 : decode cX0_nextChange 31 = .ok (.istore_n 2, 1) := by decide +kernel
theorem dX0_nextChange_32 : decode cX0_nextChange 32 = .ok (.iload_n 2, 1) := by decide +kernel
theorem dX0_nextChange_33 : decode cX0_nextChange 33 = .ok (.aload_n 0, 1) := by decide +kernel
theorem dX0_nextChange_34 : decode cX0_nextChange 34 = .ok (.getfield 12, 3) := by decide +kernel
theorem dX0_nextChange_37 : decode cX0_nextChange 37 = .ok (.getfield 72, 3) := by decide +kernel
theorem dX0_nextChange_40 : decode cX0_nextChange 40 = .ok (.iload_n 3, 1) := by decide +kernel
theorem dX0_nextChange_41 : decode cX0_nextChange 41 = .ok (.iaload, 1) := by decide +kernel
theorem dX0_nextChange_42 : decode cX0_nextChange 42 = .ok (.iload_n 1, 1) := by decide +kernel
theorem dX0_nextChange_43 : decode cX0_nextChange 43 = .ok (.invokestatic 133, 3) := by decide +kernel
theorem dX0_nextChange_46 : decode cX0_nextChange 46 = .ok (.istore_n 2, 1) := by decide +kernel
theorem dX0_nextChange_47 : decode cX0_nextChange 47 = .ok (.iinc 3 1, 3) := by decide +kernel
theorem dX0_nextChange_50 : decode cX0_nextChange 50 = .ok (.goto (-44), 3) := by decide +kernel
theorem dX0_nextChange_53 : decode cX0_nextChange 53 = .ok (.iconst 0, 1) := by decide +kernel
theorem dX0_nextChange_54 : decode cX0_nextChange 54 = .ok (.istore_n 3, 1) := by decide +kernel
theorem dX0_nextChange_55 : decode cX0_nextChange 55 = .ok (.iload_n 3, 1) := by decide +kernel
theorem dX0_nextChange_56 : decode cX0_nextChange 56 = .ok (.aload_n 0, 1) := by decide +kernel
theorem dX0_nextChange_57 : decode cX0_nextChange 57 = .ok (.getfield 25, 3) := by decide +kernel
theorem dX0_nextChange_60 : decode cX0_nextChange 60 = .ok (.getfield 57, 3) := by decide +kernel
theorem dX0_nextChange_63 : decode cX0_nextChange 63 = .ok (.if_icmp .ge 24, 3) := by decide +kernel
theorem dX0_nextChange_66 : decode cX0_nextChange 66 = .ok (.iload_n 2, 1) := by decide +kernel
theorem dX0_nextChange_67 : decode cX0_nextChange 67 = .ok (.aload_n 0, 1) := by decide +kernel
theorem dX0_nextChange_68 : decode cX0_nextChange 68 = .ok (.getfield 25, 3) := by decide +kernel
theorem dX0_nextChange_71 : decode cX0_nextChange 71 = .ok (.getfield 69, 3) := by decide +kernel
theorem dX0_nextChange_74 : decode cX0_nextChange 74 = .ok (.iload_n 3, 1) := by decide +kernel
theorem dX0_nextChange_75 : decode cX0_nextChange 75 = .ok (.iaload, 1) := by decide +kernel
theorem dX0_nextChange_76 : decode cX0_nextChange 76 = .ok (.iload_n 1, 1) := by decide +kernel
theorem dX0_nextChange_77 : decode cX0_nextChange 77 = .ok (.invokestatic 133, 3) := by decide +kernel
theorem dX0_nextChange_80 : decode cX0_nextChange 80 = .ok (.istore_n 2, 1) := by decide +kernel
theorem dX0_nextChange_81 : decode cX0_nextChange 81 = .ok (.iinc 3 1, 3) := by decide +kernel
theorem dX0_nextChange_84 : decode cX0_nextChange 84 = .ok (.goto (-29), 3) := by decide +kernel
theorem dX0_nextChange_87 : decode cX0_nextChange 87 = .ok (.iconst 0, 1) := by decide +kernel
theorem dX0_nextChange_88 : decode cX0_nextChange 88 = .ok (.istore_n 3, 1) := by decide +kernel
theorem dX0_nextChange_89 : decode cX0_nextChange 89 = .ok (.iload_n 3, 1) := by decide +kernel
theorem dX0_nextChange_90 : decode cX0_nextChange 90 = .ok (.aload_n 0, 1) := by decide +kernel
theorem dX0_nextChange_91 : decode cX0_nextChange 91 = .ok (.getfield 32, 3) := by decide +kernel
theorem dX0_nextChange_94 : decode cX0_nextChange 94 = .ok (.getfield 75, 3) := by decide +kernel
theorem dX0_nextChange_97 : decode cX0_nextChange 97 = .ok (.if_icmp .ge 41, 3) := by decide +kernel
theorem dX0_nextChange_100 : decode cX0_nextChange 100 = .ok (.iload_n 2, 1) := by decide +kernel
theorem dX0_nextChange_101 : decode cX0_nextChange 101 = .ok (.aload_n 0, 1) := by decide +kernel
theorem dX0_nextChange_102 : decode cX0_nextChange 102 = .ok (.getfield 32, 3) := by decide +kernel
theorem dX0_nextChange_105 : decode cX0_nextChange 105 = .ok (.getfield 136, 3) := by decide +kernel
theorem dX0_nextChange_108 : decode cX0_nextChange 108 = .ok (.iload_n 3, 1) := by decide +kernel
theorem dX0_nextChange_109 : decode cX0_nextChange 109 = .ok (.iaload, 1) := by decide +kernel
theorem dX0_nextChange_110 : decode cX0_nextChange 110 = .ok (.iload_n 1, 1) := by decide +kernel
theorem dX0_nextChange_111 : decode cX0_nextChange 111 = .ok (.invokestatic 133, 3) := by decide +kernel
theorem dX0_nextChange_114 : decode cX0_nextChange 114 = .ok (.istore_n 2, 1) := by decide +kernel
theorem dX0_nextChange_115 : decode cX0_nextChange 115 = .ok (.iload_n 2, 1) := by decide +kernel
theorem dX0_nextChange_116 : decode cX0_nextChange 116 = .ok (.aload_n 0, 1) := by decide +kernel
theorem dX0_nextChange_117 : decode cX0_nextChange 117 = .ok (.getfield 32, 3) := by decide +kernel
theorem dX0_nextChange_120 : decode cX0_nextChange 120 = .ok (.getfield 139, 3) := by decide +kernel
theorem dX0_nextChange_123 : decode cX0_nextChange 123 = .ok (.iload_n 3, 1) := by decide +kernel
theorem dX0_nextChange_124 : decode cX0_nextChange 124 = .ok (.iaload, 1) := by decide +kernel
theorem dX0_nextChange_125 : decode cX0_nextChange 125 = .ok (.iconst 1, 1) := by decide +kernel
theorem dX0_nextChange_126 : decode cX0_nextChange 126 = .ok (.iadd, 1) := by decide +kernel
theorem dX0_nextChange_127 : decode cX0_nextChange 127 = .ok (.iload_n 1, 1) := by decide +kernel
theorem dX0_nextChange_128 : decode cX0_nextChange 128 = .ok (.invokestatic 133, 3) := by decide +kernel
theorem dX0_nextChange_131 : decode cX0_nextChange 131 = .ok (.istore_n 2, 1) := by decide +kernel
theorem dX0_nextChange_132 : decode cX0_nextChange 132 = .ok (.iinc 3 1, 3) := by decide +kernel
theorem dX0_nextChange_135 : decode cX0_nextChange 135 = .ok (.goto (-46), 3) := by decide +kernel
theorem dX0_nextChange_138 : decode cX0_nextChange 138 = .ok (.iload_n 2, 1) := by decide +kernel
theorem dX0_nextChange_139 : decode cX0_nextChange 139 = .ok (.ireturn, 1) := by decide +kernel
theorem dX0_earlier_0 : decode cX0_earlier 0 = .ok (.iload_n 1, 1) := by decide +kernel
theorem dX0_earlier_1 : decode cX0_earlier 1 = .ok (.iload_n 2, 1) := by decide +kernel
theorem dX0_earlier_2 : decode cX0_earlier 2 = .ok (.if_icmp .le 12, 3) := by decide +kernel
theorem dX0_earlier_5 : decode cX0_earlier 5 = .ok (.iload_n 1, 1) := by decide +kernel
theorem dX0_earlier_6 : decode cX0_earlier 6 = .ok (.iload_n 0, 1) := by decide +kernel
theorem dX0_earlier_7 : decode cX0_earlier 7 = .ok (.if_icmp .ge 7, 3) := by decide +kernel
theorem dX0_earlier_10 : decode cX0_earlier 10 = .ok (.iload_n 1, 1) := by decide +kernel
theorem dX0_earlier_11 : decode cX0_earlier 11 = .ok (.goto 4, 3) := by decide +kernel
theorem dX0_earlier_14 : decode cX0_earlier 14 = .ok (.iload_n 0, 1) := by decide +kernel
theorem dX0_earlier_15 : decode cX0_earlier 15 = .ok (.ireturn, 1) := by decide +kernel
set_option maxRecDepth 20000 in
theorem ggX0_strandedDays_X0_nextChange : GoodIn wsX0_strandedDays wsX0_nextChange := goodIn_r _ [9, 10, 11, 12, 13, 14, 15, 16, 17, 18, 19, 20, 21, 22, 8, 23, 71, 72, 73, 74, 75, 76, 77, 78, 79, 80, 81, 82, 83, 84, 85, 86, 87, 88, 89, 90, 91, 92] (by decide +kernel) (by decide +kernel)
set_option maxRecDepth 20000 in
theorem gX0_strandedDays_X0_nextChange : GoodIn wsX0_strandedDays (wsV RX0 142 RX0 yX0_nextChange wsX0_nextChange) := goodIn_app (goodIn_of _ (by decide +kernel)) ggX0_strandedDays_X0_nextChange
set_option maxRecDepth 20000 in
theorem ggX0_strandedDays_X0_strandedUsers : GoodIn wsX0_strandedDays wsX0_strandedUsers := goodIn_r _ [27, 14, 15, 28, 29, 30, 8, 31, 32, 33, 34, 35, 36, 37, 38, 39, 40, 41, 42, 43, 44, 45, 46, 47, 48, 10, 49, 17, 50, 51, 52, 53, 54, 55, 56, 57, 58, 59, 60, 61, 62, 63, 64, 65, 66, 67, 68, 69, 70, 71, 72, 73, 74, 80, 81, 82, 83, 84, 85, 86, 75, 76, 77, 78, 79, 87, 88, 89, 90, 91, 92] (by decide +kernel) (by decide +kernel)
set_option maxRecDepth 20000 in
theorem gX0_strandedDays_X0_strandedUsers : GoodIn wsX0_strandedDays (wsV RX0 150 RX0 yX0_strandedUsers wsX0_strandedUsers) := goodIn_app (goodIn_of _ (by decide +kernel)) ggX0_strandedDays_X0_strandedUsers
theorem dX0_strandedDays_0 : decode cX0_strandedDays 0 = .ok (.iconst 0, 1) := by decide +kernel
theorem dX0_strandedDays_1 : decode cX0_strandedDays 1 = .ok (.istore_n 1, 1) := by decide +kernel
theorem dX0_strandedDays_2 : decode cX0_strandedDays 2 = .ok (.iconst 0, 1) := by decide +kernel
theorem dX0_strandedDays_3 : decode cX0_strandedDays 3 = .ok (.istore_n 2, 1) := by decide +kernel
theorem dX0_strandedDays_4 : decode cX0_strandedDays 4 = .ok (.iload_n 2, 1) := by decide +kernel
theorem dX0_strandedDays_5 : decode cX0_strandedDays 5 = .ok (.sipush 1000, 3) := by decide +kernel
theorem dX0_strandedDays_8 : decode cX0_strandedDays 8 = .ok (.if_icmp .ge 34, 3) := by decide +kernel
theorem dX0_strandedDays_11 : decode cX0_strandedDays 11 = .ok (.iload_n 2, 1) := by decide +kernel
theorem dX0_strandedDays_12 : decode cX0_strandedDays 12 = .ok (.iconst 1, 1) := by decide +kernel
theorem dX0_strandedDays_13 : decode cX0_strandedDays 13 = .ok (.iadd, 1) := by decide +kernel
theorem dX0_strandedDays_14 : decode cX0_strandedDays 14 = .ok (.aload_n 0, 1) := by decide +kernel
theorem dX0_strandedDays_15 : decode cX0_strandedDays 15 = .ok (.iload_n 2, 1) := by decide +kernel
theorem dX0_strandedDays_16 : decode cX0_strandedDays 16 = .ok (.invokevirtual 142, 3) := by decide +kernel
theorem dX0_strandedDays_19 : decode cX0_strandedDays 19 = .ok (.invokestatic 145, 3) := by decide +kernel
theorem dX0_strandedDays_22 : decode cX0_strandedDays 22 = .ok (.istore_n 3, 1) := by decide +kernel
theorem dX0_strandedDays_23 : decode cX0_strandedDays 23 = .ok (.aload_n 0, 1) := by decide +kernel
theorem dX0_strandedDays_24 : decode cX0_strandedDays 24 = .ok (.iload_n 2, 1) := by decide +kernel
theorem dX0_strandedDays_25 : decode cX0_strandedDays 25 = .ok (.invokevirtual 150, 3) := by decide +kernel
theorem dX0_strandedDays_28 : decode cX0_strandedDays 28 = .ok (.ifCond .eq 9, 3) := by decide +kernel
theorem dX0_strandedDays_31 : decode cX0_strandedDays 31 = .ok (.iload_n 1, 1) := by decide +kernel
theorem dX0_strandedDays_32 : decode cX0_strandedDays 32 = .ok (.iload_n 3, 1) := by decide +kernel
theorem dX0_strandedDays_33 : decode cX0_strandedDays 33 = .ok (.iload_n 2, 1) := by decide +kernel
theorem dX0_strandedDays_34 : decode cX0_strandedDays 34 = .ok (.isub, 1) := by decide +kernel
theorem dX0_strandedDays_35 : decode cX0_strandedDays 35 = .ok (.iadd, 1) := by decide +kernel
theorem dX0_strandedDays_36 : decode cX0_strandedDays 36 = .ok (.istore_n 1, 1) := by decide +kernel
theorem dX0_strandedDays_37 : decode cX0_strandedDays 37 = .ok (.iload_n 3, 1) := by decide +kernel
theorem dX0_strandedDays_38 : decode cX0_strandedDays 38 = .ok (.istore_n 2, 1) := by decide +kernel
theorem dX0_strandedDays_39 : decode cX0_strandedDays 39 = .ok (.goto (-35), 3) := by decide +kernel
theorem dX0_strandedDays_42 : decode cX0_strandedDays 42 = .ok (.iload_n 1, 1) := by decide +kernel
theorem dX0_strandedDays_43 : decode cX0_strandedDays 43 = .ok (.ireturn, 1) := by decide +kernel
set_option maxRecDepth 20000 in
theorem ggX0_costOfAll_X0_nextChange : GoodIn wsX0_costOfAll wsX0_nextChange := goodIn_r _ [12, 13, 14, 15, 16, 17, 18, 19, 20, 21, 22, 23, 24, 25, 11, 26, 75, 76, 77, 78, 79, 80, 81, 82, 83, 84, 85, 86, 87, 88, 89, 90, 91, 92, 93, 94, 95, 96] (by decide +kernel) (by decide +kernel)
set_option maxRecDepth 20000 in
theorem gX0_costOfAll_X0_nextChange : GoodIn wsX0_costOfAll (wsV RX0 142 RX0 yX0_nextChange wsX0_nextChange) := goodIn_app (goodIn_of _ (by decide +kernel)) ggX0_costOfAll_X0_nextChange
set_option maxRecDepth 20000 in
theorem ggX0_costOfAll_X0_costOfAllOn : GoodIn wsX0_costOfAll wsX0_costOfAllOn := goodIn_r _ [30, 17, 18, 31, 32, 33, 34, 35, 36, 37, 38, 39, 40, 41, 42, 43, 44, 45, 46, 11, 47, 13, 48, 49, 20, 50, 51, 52, 53, 54, 55, 56, 57, 58, 59, 60, 61, 62, 63, 64, 65, 66, 67, 68, 69, 70, 71, 72, 73, 74, 75, 76, 77, 78, 84, 85, 86, 87, 88, 89, 90, 79, 80, 81, 82, 83, 91, 92, 93, 94, 95, 96] (by decide +kernel) (by decide +kernel)
set_option maxRecDepth 20000 in
theorem gX0_costOfAll_X0_costOfAllOn : GoodIn wsX0_costOfAll (wsV RX0 156 RX0 yX0_costOfAllOn wsX0_costOfAllOn) := goodIn_app (goodIn_of _ (by decide +kernel)) ggX0_costOfAll_X0_costOfAllOn
theorem dX0_costOfAll_0 : decode cX0_costOfAll 0 = .ok (.iconst 0, 1) := by decide +kernel
theorem dX0_costOfAll_1 : decode cX0_costOfAll 1 = .ok (.istore_n 3, 1) := by decide +kernel
theorem dX0_costOfAll_2 : decode cX0_costOfAll 2 = .ok (.iload_n 1, 1) := by decide +kernel
theorem dX0_costOfAll_3 : decode cX0_costOfAll 3 = .ok (.istore 4, 2) := by decide +kernel
theorem dX0_costOfAll_5 : decode cX0_costOfAll 5 = .ok (.iload 4, 2) := by decide +kernel
theorem dX0_costOfAll_7 : decode cX0_costOfAll 7 = .ok (.iload_n 2, 1) := by decide +kernel
theorem dX0_costOfAll_8 : decode cX0_costOfAll 8 = .ok (.if_icmp .gt 46, 3) := by decide +kernel
theorem dX0_costOfAll_11 : decode cX0_costOfAll 11 = .ok (.iload 4, 2) := by decide +kernel
theorem dX0_costOfAll_13 : decode cX0_costOfAll 13 = .ok (.iconst 1, 1) := by decide +kernel
theorem dX0_costOfAll_14 : decode cX0_costOfAll 14 = .ok (.iadd, 1) := by decide +kernel
theorem dX0_costOfAll_15 : decode cX0_costOfAll 15 = .ok (.iload_n 2, 1) := by decide +kernel
theorem dX0_costOfAll_16 : decode cX0_costOfAll 16 = .ok (.iconst 1, 1) := by decide +kernel
theorem dX0_costOfAll_17 : decode cX0_costOfAll 17 = .ok (.iadd, 1) := by decide +kernel
theorem dX0_costOfAll_18 : decode cX0_costOfAll 18 = .ok (.aload_n 0, 1) := by decide +kernel
theorem dX0_costOfAll_19 : decode cX0_costOfAll 19 = .ok (.iload 4, 2) := by decide +kernel
theorem dX0_costOfAll_21 : decode cX0_costOfAll 21 = .ok (.invokevirtual 142, 3) := by decide +kernel
theorem dX0_costOfAll_24 : decode cX0_costOfAll 24 = .ok (.invokestatic 153, 3) := by decide +kernel
theorem dX0_costOfAll_27 : decode cX0_costOfAll 27 = .ok (.invokestatic 145, 3) := by decide +kernel
theorem dX0_costOfAll_30 : decode cX0_costOfAll 30 = .ok (.istore 5, 2) := by decide +kernel
theorem dX0_costOfAll_32 : decode cX0_costOfAll 32 = .ok (.iload_n 3, 1) := by decide +kernel
theorem dX0_costOfAll_33 : decode cX0_costOfAll 33 = .ok (.iload 5, 2) := by decide +kernel
theorem dX0_costOfAll_35 : decode cX0_costOfAll 35 = .ok (.iload 4, 2) := by decide +kernel
theorem dX0_costOfAll_37 : decode cX0_costOfAll 37 = .ok (.isub, 1) := by decide +kernel
theorem dX0_costOfAll_38 : decode cX0_costOfAll 38 = .ok (.aload_n 0, 1) := by decide +kernel
theorem dX0_costOfAll_39 : decode cX0_costOfAll 39 = .ok (.iload 4, 2) := by decide +kernel
theorem dX0_costOfAll_41 : decode cX0_costOfAll 41 = .ok (.invokevirtual 156, 3) := by decide +kernel
theorem dX0_costOfAll_44 : decode cX0_costOfAll 44 = .ok (.imul, 1) := by decide +kernel
theorem dX0_costOfAll_45 : decode cX0_costOfAll 45 = .ok (.iadd, 1) := by decide +kernel
theorem dX0_costOfAll_46 : decode cX0_costOfAll 46 = .ok (.istore_n 3, 1) := by decide +kernel
theorem dX0_costOfAll_47 : decode cX0_costOfAll 47 = .ok (.iload 5, 2) := by decide +kernel
theorem dX0_costOfAll_49 : decode cX0_costOfAll 49 = .ok (.istore 4, 2) := by decide +kernel
theorem dX0_costOfAll_51 : decode cX0_costOfAll 51 = .ok (.goto (-46), 3) := by decide +kernel
theorem dX0_costOfAll_54 : decode cX0_costOfAll 54 = .ok (.iload_n 3, 1) := by decide +kernel
theorem dX0_costOfAll_55 : decode cX0_costOfAll 55 = .ok (.ireturn, 1) := by decide +kernel
set_option maxRecDepth 20000 in
theorem ggX0_costOfOne_X0_nextChange : GoodIn wsX0_costOfOne wsX0_nextChange := goodIn_r _ [12, 13, 14, 15, 16, 17, 18, 19, 20, 21, 22, 23, 24, 25, 11, 26, 58, 59, 60, 61, 62, 63, 64, 65, 66, 67, 68, 69, 70, 71, 72, 73, 74, 75, 76, 77, 78, 79] (by decide +kernel) (by decide +kernel)
set_option maxRecDepth 20000 in
theorem gX0_costOfOne_X0_nextChange : GoodIn wsX0_costOfOne (wsV RX0 142 RX0 yX0_nextChange wsX0_nextChange) := goodIn_app (goodIn_of _ (by decide +kernel)) ggX0_costOfOne_X0_nextChange
set_option maxRecDepth 20000 in
theorem ggX0_costOfOne_X0_costOn : GoodIn wsX0_costOfOne wsX0_costOn := goodIn_r _ [30, 13, 31, 32, 20, 33, 34, 35, 36, 37, 38, 39, 40, 41, 42, 43, 44, 45, 46, 47, 48, 49, 50, 51, 52, 53, 54, 55, 56, 57, 58, 59, 60, 61, 62, 63, 64, 65, 66, 74, 75, 76, 77, 78, 79] (by decide +kernel) (by decide +kernel)
set_option maxRecDepth 20000 in
theorem gX0_costOfOne_X0_costOn : GoodIn wsX0_costOfOne (wsV RX0 127 RX0 yX0_costOn wsX0_costOn) := goodIn_app (goodIn_of _ (by decide +kernel)) ggX0_costOfOne_X0_costOn
theorem dX0_costOfOne_0 : decode cX0_costOfOne 0 = .ok (.iconst 0, 1) := by decide +kernel
theorem dX0_costOfOne_1 : decode cX0_costOfOne 1 = .ok (.istore 5, 2) := by decide +kernel
theorem dX0_costOfOne_3 : decode cX0_costOfOne 3 = .ok (.iload_n 3, 1) := by decide +kernel
theorem dX0_costOfOne_4 : decode cX0_costOfOne 4 = .ok (.istore 6, 2) := by decide +kernel
theorem dX0_costOfOne_6 : decode cX0_costOfOne 6 = .ok (.iload 6, 2) := by decide +kernel
theorem dX0_costOfOne_8 : decode cX0_costOfOne 8 = .ok (.iload 4, 2) := by decide +kernel
theorem dX0_costOfOne_10 : decode cX0_costOfOne 10 = .ok (.if_icmp .gt 51, 3) := by decide +kernel
theorem dX0_costOfOne_13 : decode cX0_costOfOne 13 = .ok (.iload 6, 2) := by decide +kernel
theorem dX0_costOfOne_15 : decode cX0_costOfOne 15 = .ok (.iconst 1, 1) := by decide +kernel
theorem dX0_costOfOne_16 : decode cX0_costOfOne 16 = .ok (.iadd, 1) := by decide +kernel
theorem dX0_costOfOne_17 : decode cX0_costOfOne 17 = .ok (.iload 4, 2) := by decide +kernel
theorem dX0_costOfOne_19 : decode cX0_costOfOne 19 = .ok (.iconst 1, 1) := by decide +kernel
theorem dX0_costOfOne_20 : decode cX0_costOfOne 20 = .ok (.iadd, 1) := by decide +kernel
theorem dX0_costOfOne_21 : decode cX0_costOfOne 21 = .ok (.aload_n 0, 1) := by decide +kernel
theorem dX0_costOfOne_22 : decode cX0_costOfOne 22 = .ok (.iload 6, 2) := by decide +kernel
theorem dX0_costOfOne_24 : decode cX0_costOfOne 24 = .ok (.invokevirtual 142, 3) := by decide +kernel
theorem dX0_costOfOne_27 : decode cX0_costOfOne 27 = .ok (.invokestatic 153, 3) := by decide +kernel
theorem dX0_costOfOne_30 : decode cX0_costOfOne 30 = .ok (.invokestatic 145, 3) := by decide +kernel
theorem dX0_costOfOne_33 : decode cX0_costOfOne 33 = .ok (.istore 7, 2) := by decide +kernel
theorem dX0_costOfOne_35 : decode cX0_costOfOne 35 = .ok (.iload 5, 2) := by decide +kernel
theorem dX0_costOfOne_37 : decode cX0_costOfOne 37 = .ok (.iload 7, 2) := by decide +kernel
theorem dX0_costOfOne_39 : decode cX0_costOfOne 39 = .ok (.iload 6, 2) := by decide +kernel
theorem dX0_costOfOne_41 : decode cX0_costOfOne 41 = .ok (.isub, 1) := by decide +kernel
theorem dX0_costOfOne_42 : decode cX0_costOfOne 42 = .ok (.aload_n 0, 1) := by decide +kernel
theorem dX0_costOfOne_43 : decode cX0_costOfOne 43 = .ok (.iload_n 1, 1) := by decide +kernel
theorem dX0_costOfOne_44 : decode cX0_costOfOne 44 = .ok (.iload_n 2, 1) := by decide +kernel
theorem dX0_costOfOne_45 : decode cX0_costOfOne 45 = .ok (.iload 6, 2) := by decide +kernel
theorem dX0_costOfOne_47 : decode cX0_costOfOne 47 = .ok (.invokevirtual 127, 3) := by decide +kernel
theorem dX0_costOfOne_50 : decode cX0_costOfOne 50 = .ok (.imul, 1) := by decide +kernel
theorem dX0_costOfOne_51 : decode cX0_costOfOne 51 = .ok (.iadd, 1) := by decide +kernel
theorem dX0_costOfOne_52 : decode cX0_costOfOne 52 = .ok (.istore 5, 2) := by decide +kernel
theorem dX0_costOfOne_54 : decode cX0_costOfOne 54 = .ok (.iload 7, 2) := by decide +kernel
theorem dX0_costOfOne_56 : decode cX0_costOfOne 56 = .ok (.istore 6, 2) := by decide +kernel
theorem dX0_costOfOne_58 : decode cX0_costOfOne 58 = .ok (.goto (-52), 3) := by decide +kernel
theorem dX0_costOfOne_61 : decode cX0_costOfOne 61 = .ok (.iload 5, 2) := by decide +kernel
theorem dX0_costOfOne_63 : decode cX0_costOfOne 63 = .ok (.ireturn, 1) := by decide +kernel
set_option maxRecDepth 20000 in
theorem ggX0_firstDayStranded_X0_unservedUses : GoodIn wsX0_firstDayStranded wsX0_unservedUses := goodIn_r _ [9, 10, 11, 12, 13, 14, 15, 16, 17, 18, 19, 20, 21, 22, 23, 24, 25, 26, 8, 27, 28, 29, 30, 31, 32, 33, 34, 35, 36, 37, 38, 39, 40, 41, 42, 43, 44, 45, 46, 47, 48, 49, 50, 51, 67, 68, 69, 70, 71, 72, 73, 74, 75, 76, 77, 78, 79, 80, 81, 82, 83, 84, 85, 86, 87, 88] (by decide +kernel) (by decide +kernel)
set_option maxRecDepth 20000 in
theorem gX0_firstDayStranded_X0_unservedUses : GoodIn wsX0_firstDayStranded (wsV RX0 116 RX0 yX0_unservedUses wsX0_unservedUses) := goodIn_app (goodIn_of _ (by decide +kernel)) ggX0_firstDayStranded_X0_unservedUses
set_option maxRecDepth 20000 in
theorem ggX0_firstDayStranded_X0_nextChange : GoodIn wsX0_firstDayStranded wsX0_nextChange := goodIn_r _ [55, 28, 56, 57, 58, 10, 59, 60, 30, 61, 62, 63, 64, 65, 8, 66, 67, 68, 69, 70, 78, 79, 80, 81, 82, 71, 72, 73, 74, 75, 76, 77, 83, 84, 85, 86, 87, 88] (by decide +kernel) (by decide +kernel)
set_option maxRecDepth 20000 in
theorem gX0_firstDayStranded_X0_nextChange : GoodIn wsX0_firstDayStranded (wsV RX0 142 RX0 yX0_nextChange wsX0_nextChange) := goodIn_app (goodIn_of _ (by decide +kernel)) ggX0_firstDayStranded_X0_nextChange
theorem dX0_firstDayStranded_0 : decode cX0_firstDayStranded 0 = .ok (.iload_n 2, 1) := by decide +kernel
theorem dX0_firstDayStranded_1 : decode cX0_firstDayStranded 1 = .ok (.istore_n 3, 1) := by decide +kernel
theorem dX0_firstDayStranded_2 : decode cX0_firstDayStranded 2 = .ok (.iload_n 3, 1) := by decide +kernel
theorem dX0_firstDayStranded_3 : decode cX0_firstDayStranded 3 = .ok (.sipush 1000, 3) := by decide +kernel
theorem dX0_firstDayStranded_6 : decode cX0_firstDayStranded 6 = .ok (.if_icmp .ge 29, 3) := by decide +kernel
theorem dX0_firstDayStranded_9 : decode cX0_firstDayStranded 9 = .ok (.aload_n 0, 1) := by decide +kernel
theorem dX0_firstDayStranded_10 : decode cX0_firstDayStranded 10 = .ok (.iload_n 1, 1) := by decide +kernel
theorem dX0_firstDayStranded_11 : decode cX0_firstDayStranded 11 = .ok (.iload_n 3, 1) := by decide +kernel
theorem dX0_firstDayStranded_12 : decode cX0_firstDayStranded 12 = .ok (.invokevirtual 116, 3) := by decide +kernel
theorem dX0_firstDayStranded_15 : decode cX0_firstDayStranded 15 = .ok (.ifCond .eq 5, 3) := by decide +kernel
theorem dX0_firstDayStranded_18 : decode cX0_firstDayStranded 18 = .ok (.iload_n 3, 1) := by decide +kernel
theorem dX0_firstDayStranded_19 : decode cX0_firstDayStranded 19 = .ok (.ireturn, 1) := by decide +kernel
theorem dX0_firstDayStranded_20 : decode cX0_firstDayStranded 20 = .ok (.iload_n 3, 1) := by decide +kernel
theorem dX0_firstDayStranded_21 : decode cX0_firstDayStranded 21 = .ok (.iconst 1, 1) := by decide +kernel
theorem dX0_firstDayStranded_22 : decode cX0_firstDayStranded 22 = .ok (.iadd, 1) := by decide +kernel
theorem dX0_firstDayStranded_23 : decode cX0_firstDayStranded 23 = .ok (.aload_n 0, 1) := by decide +kernel
theorem dX0_firstDayStranded_24 : decode cX0_firstDayStranded 24 = .ok (.iload_n 3, 1) := by decide +kernel
theorem dX0_firstDayStranded_25 : decode cX0_firstDayStranded 25 = .ok (.invokevirtual 142, 3) := by decide +kernel
theorem dX0_firstDayStranded_28 : decode cX0_firstDayStranded 28 = .ok (.invokestatic 145, 3) := by decide +kernel
theorem dX0_firstDayStranded_31 : decode cX0_firstDayStranded 31 = .ok (.istore_n 3, 1) := by decide +kernel
theorem dX0_firstDayStranded_32 : decode cX0_firstDayStranded 32 = .ok (.goto (-30), 3) := by decide +kernel
theorem dX0_firstDayStranded_35 : decode cX0_firstDayStranded 35 = .ok (.iconst (-1), 1) := by decide +kernel
theorem dX0_firstDayStranded_36 : decode cX0_firstDayStranded 36 = .ok (.ireturn, 1) := by decide +kernel
set_option maxRecDepth 20000 in
theorem ggX0_firstDayUnserved_X0_unserved : GoodIn wsX0_firstDayUnserved wsX0_unserved := goodIn_r _ [9, 10, 11, 12, 13, 14, 15, 16, 17, 18, 19, 20, 21, 22, 23, 24, 25, 26, 27, 28, 29, 30, 31, 32, 33, 50, 51, 52, 53, 54, 55, 56, 57, 58, 59, 60, 61, 62, 63, 64] (by decide +kernel) (by decide +kernel)
set_option maxRecDepth 20000 in
theorem gX0_firstDayUnserved_X0_unserved : GoodIn wsX0_firstDayUnserved (wsV RX0 112 RX0 yX0_unserved wsX0_unserved) := goodIn_app (goodIn_of _ (by decide +kernel)) ggX0_firstDayUnserved_X0_unserved
set_option maxRecDepth 20000 in
theorem ggX0_firstDayUnserved_X0_nextChange : GoodIn wsX0_firstDayUnserved wsX0_nextChange := goodIn_r _ [37, 10, 38, 39, 40, 41, 42, 43, 12, 44, 45, 46, 47, 48, 8, 49, 50, 51, 52, 53, 54, 55, 56, 57, 58, 65, 66, 67, 68, 69, 70, 71, 59, 60, 61, 62, 63, 64] (by decide +kernel) (by decide +kernel)
set_option maxRecDepth 20000 in
theorem gX0_firstDayUnserved_X0_nextChange : GoodIn wsX0_firstDayUnserved (wsV RX0 142 RX0 yX0_nextChange wsX0_nextChange) := goodIn_app (goodIn_of _ (by decide +kernel)) ggX0_firstDayUnserved_X0_nextChange
theorem dX0_firstDayUnserved_0 : decode cX0_firstDayUnserved 0 = .ok (.iload_n 3, 1) := by decide +kernel
theorem dX0_firstDayUnserved_1 : decode cX0_firstDayUnserved 1 = .ok (.istore 5, 2) := by decide +kernel
theorem dX0_firstDayUnserved_3 : decode cX0_firstDayUnserved 3 = .ok (.iload 5, 2) := by decide +kernel
theorem dX0_firstDayUnserved_5 : decode cX0_firstDayUnserved 5 = .ok (.iload 4, 2) := by decide +kernel
theorem dX0_firstDayUnserved_7 : decode cX0_firstDayUnserved 7 = .ok (.if_icmp .gt 35, 3) := by decide +kernel
theorem dX0_firstDayUnserved_10 : decode cX0_firstDayUnserved 10 = .ok (.aload_n 0, 1) := by decide +kernel
theorem dX0_firstDayUnserved_11 : decode cX0_firstDayUnserved 11 = .ok (.iload_n 1, 1) := by decide +kernel
theorem dX0_firstDayUnserved_12 : decode cX0_firstDayUnserved 12 = .ok (.iload_n 2, 1) := by decide +kernel
theorem dX0_firstDayUnserved_13 : decode cX0_firstDayUnserved 13 = .ok (.iload 5, 2) := by decide +kernel
theorem dX0_firstDayUnserved_15 : decode cX0_firstDayUnserved 15 = .ok (.invokevirtual 112, 3) := by decide +kernel
theorem dX0_firstDayUnserved_18 : decode cX0_firstDayUnserved 18 = .ok (.ifCond .eq 6, 3) := by decide +kernel
theorem dX0_firstDayUnserved_21 : decode cX0_firstDayUnserved 21 = .ok (.iload 5, 2) := by decide +kernel
theorem dX0_firstDayUnserved_23 : decode cX0_firstDayUnserved 23 = .ok (.ireturn, 1) := by decide +kernel
theorem dX0_firstDayUnserved_24 : decode cX0_firstDayUnserved 24 = .ok (.iload 5, 2) := by decide +kernel
theorem dX0_firstDayUnserved_26 : decode cX0_firstDayUnserved 26 = .ok (.iconst 1, 1) := by decide +kernel
theorem dX0_firstDayUnserved_27 : decode cX0_firstDayUnserved 27 = .ok (.iadd, 1) := by decide +kernel
theorem dX0_firstDayUnserved_28 : decode cX0_firstDayUnserved 28 = .ok (.aload_n 0, 1) := by decide +kernel
theorem dX0_firstDayUnserved_29 : decode cX0_firstDayUnserved 29 = .ok (.iload 5, 2) := by decide +kernel
theorem dX0_firstDayUnserved_31 : decode cX0_firstDayUnserved 31 = .ok (.invokevirtual 142, 3) := by decide +kernel
theorem dX0_firstDayUnserved_34 : decode cX0_firstDayUnserved 34 = .ok (.invokestatic 145, 3) := by decide +kernel
theorem dX0_firstDayUnserved_37 : decode cX0_firstDayUnserved 37 = .ok (.istore 5, 2) := by decide +kernel
theorem dX0_firstDayUnserved_39 : decode cX0_firstDayUnserved 39 = .ok (.goto (-36), 3) := by decide +kernel
theorem dX0_firstDayUnserved_42 : decode cX0_firstDayUnserved 42 = .ok (.iconst (-1), 1) := by decide +kernel
theorem dX0_firstDayUnserved_43 : decode cX0_firstDayUnserved 43 = .ok (.ireturn, 1) := by decide +kernel
set_option maxRecDepth 20000 in
theorem ggX0_servedFrom_X0_nextChange : GoodIn wsX0_servedFrom wsX0_nextChange := goodIn_r _ [9, 10, 11, 12, 13, 14, 15, 16, 17, 18, 19, 20, 21, 22, 8, 23, 50, 51, 52, 53, 54, 55, 56, 57, 58, 59, 60, 61, 62, 63, 64, 65, 66, 67, 68, 69, 70, 71] (by decide +kernel) (by decide +kernel)
set_option maxRecDepth 20000 in
theorem gX0_servedFrom_X0_nextChange : GoodIn wsX0_servedFrom (wsV RX0 142 RX0 yX0_nextChange wsX0_nextChange) := goodIn_app (goodIn_of _ (by decide +kernel)) ggX0_servedFrom_X0_nextChange
set_option maxRecDepth 20000 in
theorem ggX0_servedFrom_X0_unserved : GoodIn wsX0_servedFrom wsX0_unserved := goodIn_r _ [27, 10, 28, 17, 29, 30, 31, 32, 33, 34, 35, 36, 37, 38, 39, 40, 41, 42, 43, 44, 45, 46, 47, 48, 49, 50, 51, 52, 53, 54, 55, 56, 57, 58, 66, 67, 68, 69, 70, 71] (by decide +kernel) (by decide +kernel)
set_option maxRecDepth 20000 in
theorem gX0_servedFrom_X0_unserved : GoodIn wsX0_servedFrom (wsV RX0 112 RX0 yX0_unserved wsX0_unserved) := goodIn_app (goodIn_of _ (by decide +kernel)) ggX0_servedFrom_X0_unserved
theorem dX0_servedFrom_0 : decode cX0_servedFrom 0 = .ok (.iload_n 3, 1) := by decide +kernel
theorem dX0_servedFrom_1 : decode cX0_servedFrom 1 = .ok (.istore 4, 2) := by decide +kernel
theorem dX0_servedFrom_3 : decode cX0_servedFrom 3 = .ok (.iload_n 3, 1) := by decide +kernel
theorem dX0_servedFrom_4 : decode cX0_servedFrom 4 = .ok (.istore 5, 2) := by decide +kernel
theorem dX0_servedFrom_6 : decode cX0_servedFrom 6 = .ok (.iload 5, 2) := by decide +kernel
theorem dX0_servedFrom_8 : decode cX0_servedFrom 8 = .ok (.sipush 1000, 3) := by decide +kernel
theorem dX0_servedFrom_11 : decode cX0_servedFrom 11 = .ok (.if_icmp .ge 40, 3) := by decide +kernel
theorem dX0_servedFrom_14 : decode cX0_servedFrom 14 = .ok (.iload 5, 2) := by decide +kernel
theorem dX0_servedFrom_16 : decode cX0_servedFrom 16 = .ok (.iconst 1, 1) := by decide +kernel
theorem dX0_servedFrom_17 : decode cX0_servedFrom 17 = .ok (.iadd, 1) := by decide +kernel
theorem dX0_servedFrom_18 : decode cX0_servedFrom 18 = .ok (.aload_n 0, 1) := by decide +kernel
theorem dX0_servedFrom_19 : decode cX0_servedFrom 19 = .ok (.iload 5, 2) := by decide +kernel
theorem dX0_servedFrom_21 : decode cX0_servedFrom 21 = .ok (.invokevirtual 142, 3) := by decide +kernel
theorem dX0_servedFrom_24 : decode cX0_servedFrom 24 = .ok (.invokestatic 145, 3) := by decide +kernel
theorem dX0_servedFrom_27 : decode cX0_servedFrom 27 = .ok (.istore 6, 2) := by decide +kernel
theorem dX0_servedFrom_29 : decode cX0_servedFrom 29 = .ok (.aload_n 0, 1) := by decide +kernel
theorem dX0_servedFrom_30 : decode cX0_servedFrom 30 = .ok (.iload_n 1, 1) := by decide +kernel
theorem dX0_servedFrom_31 : decode cX0_servedFrom 31 = .ok (.iload_n 2, 1) := by decide +kernel
theorem dX0_servedFrom_32 : decode cX0_servedFrom 32 = .ok (.iload 5, 2) := by decide +kernel
theorem dX0_servedFrom_34 : decode cX0_servedFrom 34 = .ok (.invokevirtual 112, 3) := by decide +kernel
theorem dX0_servedFrom_37 : decode cX0_servedFrom 37 = .ok (.ifCond .eq 7, 3) := by decide +kernel
theorem dX0_servedFrom_40 : decode cX0_servedFrom 40 = .ok (.iload 6, 2) := by decide +kernel
theorem dX0_servedFrom_42 : decode cX0_servedFrom 42 = .ok (.istore 4, 2) := by decide +kernel
theorem dX0_servedFrom_44 : decode cX0_servedFrom 44 = .ok (.iload 6, 2) := by decide +kernel
theorem dX0_servedFrom_46 : decode cX0_servedFrom 46 = .ok (.istore 5, 2) := by decide +kernel
theorem dX0_servedFrom_48 : decode cX0_servedFrom 48 = .ok (.goto (-42), 3) := by decide +kernel
theorem dX0_servedFrom_51 : decode cX0_servedFrom 51 = .ok (.iload 4, 2) := by decide +kernel
theorem dX0_servedFrom_53 : decode cX0_servedFrom 53 = .ok (.ireturn, 1) := by decide +kernel
set_option maxRecDepth 20000 in
theorem ggX0_latestPledge_X0_firstDayUnserved : GoodIn wsX0_latestPledge wsX0_firstDayUnserved := goodIn_r _ [8, 9, 10, 11, 12, 13, 14, 15, 7, 16, 17, 18, 19, 20, 21, 22, 23, 24, 25, 26, 27, 28, 29, 30, 31, 32, 33, 34, 35, 36, 37, 38, 39, 40, 41, 42, 43, 44, 45, 46, 47, 1, 48, 49, 50, 51, 52, 53, 54, 55, 60, 61, 62, 63, 71, 72, 73, 74, 75, 76, 77, 78, 79, 80, 81, 64, 65, 66, 67, 68, 69, 70] (by decide +kernel) (by decide +kernel)
set_option maxRecDepth 20000 in
theorem gX0_latestPledge_X0_firstDayUnserved : GoodIn wsX0_latestPledge (wsV RX0 160 RX0 yX0_firstDayUnserved wsX0_firstDayUnserved) := goodIn_app (goodIn_of _ (by decide +kernel)) ggX0_latestPledge_X0_firstDayUnserved
set_option maxRecDepth 20000 in
theorem ggX0_latestPledge_X0_servedFrom : GoodIn wsX0_latestPledge wsX0_servedFrom := goodIn_r _ [59, 9, 10, 11, 12, 41, 42, 43, 7, 44, 17, 45, 46, 47, 1, 48, 49, 19, 50, 51, 52, 53, 54, 55, 13, 14, 15, 16, 18, 20, 21, 22, 23, 24, 25, 26, 27, 28, 29, 30, 31, 32, 33, 34, 35, 36, 37, 38, 39, 40, 60, 61, 62, 63, 71, 72, 73, 74, 75, 64, 65, 66, 67, 68, 69, 70, 76, 77, 78, 79, 80, 81] (by decide +kernel) (by decide +kernel)
set_option maxRecDepth 20000 in
theorem gX0_latestPledge_X0_servedFrom : GoodIn wsX0_latestPledge (wsV RX0 164 RX0 yX0_servedFrom wsX0_servedFrom) := goodIn_app (goodIn_of _ (by decide +kernel)) ggX0_latestPledge_X0_servedFrom
theorem dX0_latestPledge_0 : decode cX0_latestPledge 0 = .ok (.aload_n 0, 1) := by decide +kernel
theorem dX0_latestPledge_1 : decode cX0_latestPledge 1 = .ok (.getfield 25, 3) := by decide +kernel
theorem dX0_latestPledge_4 : decode cX0_latestPledge 4 = .ok (.getfield 99, 3) := by decide +kernel
theorem dX0_latestPledge_7 : decode cX0_latestPledge 7 = .ok (.iload_n 1, 1) := by decide +kernel
theorem dX0_latestPledge_8 : decode cX0_latestPledge 8 = .ok (.iaload, 1) := by decide +kernel
theorem dX0_latestPledge_9 : decode cX0_latestPledge 9 = .ok (.istore 4, 2) := by decide +kernel
theorem dX0_latestPledge_11 : decode cX0_latestPledge 11 = .ok (.aload_n 0, 1) := by decide +kernel
theorem dX0_latestPledge_12 : decode cX0_latestPledge 12 = .ok (.iload 4, 2) := by decide +kernel
theorem dX0_latestPledge_14 : decode cX0_latestPledge 14 = .ok (.aload_n 0, 1) := by decide +kernel
theorem dX0_latestPledge_15 : decode cX0_latestPledge 15 = .ok (.getfield 25, 3) := by decide +kernel
theorem dX0_latestPledge_18 : decode cX0_latestPledge 18 = .ok (.getfield 159, 3) := by decide +kernel
theorem dX0_latestPledge_21 : decode cX0_latestPledge 21 = .ok (.iload_n 1, 1) := by decide +kernel
theorem dX0_latestPledge_22 : decode cX0_latestPledge 22 = .ok (.iaload, 1) := by decide +kernel
theorem dX0_latestPledge_23 : decode cX0_latestPledge 23 = .ok (.iload_n 3, 1) := by decide +kernel
theorem dX0_latestPledge_24 : decode cX0_latestPledge 24 = .ok (.sipush 999, 3) := by decide +kernel
theorem dX0_latestPledge_27 : decode cX0_latestPledge 27 = .ok (.invokevirtual 160, 3) := by decide +kernel
theorem dX0_latestPledge_30 : decode cX0_latestPledge 30 = .ok (.istore 5, 2) := by decide +kernel
theorem dX0_latestPledge_32 : decode cX0_latestPledge 32 = .ok (.iload 5, 2) := by decide +kernel
theorem dX0_latestPledge_34 : decode cX0_latestPledge 34 = .ok (.iconst (-1), 1) := by decide +kernel
theorem dX0_latestPledge_35 : decode cX0_latestPledge 35 = .ok (.if_icmp .ne 9, 3) := by decide +kernel
theorem dX0_latestPledge_38 : decode cX0_latestPledge 38 = .ok (.sipush 999, 3) := by decide +kernel
theorem dX0_latestPledge_41 : decode cX0_latestPledge 41 = .ok (.goto 5, 3) := by decide +kernel
theorem dX0_latestPledge_44 : decode cX0_latestPledge 44 = .ok (.iload 5, 2) := by decide +kernel
theorem dX0_latestPledge_46 : decode cX0_latestPledge 46 = .ok (.istore 6, 2) := by decide +kernel
theorem dX0_latestPledge_48 : decode cX0_latestPledge 48 = .ok (.iload 6, 2) := by decide +kernel
theorem dX0_latestPledge_50 : decode cX0_latestPledge 50 = .ok (.aload_n 0, 1) := by decide +kernel
theorem dX0_latestPledge_51 : decode cX0_latestPledge 51 = .ok (.iload 4, 2) := by decide +kernel
theorem dX0_latestPledge_53 : decode cX0_latestPledge 53 = .ok (.iload_n 2, 1) := by decide +kernel
theorem dX0_latestPledge_54 : decode cX0_latestPledge 54 = .ok (.iload_n 3, 1) := by decide +kernel
theorem dX0_latestPledge_55 : decode cX0_latestPledge 55 = .ok (.invokevirtual 164, 3) := by decide +kernel
theorem dX0_latestPledge_58 : decode cX0_latestPledge 58 = .ok (.if_icmp .lt 8, 3) := by decide +kernel
theorem dX0_latestPledge_61 : decode cX0_latestPledge 61 = .ok (.iload 6, 2) := by decide +kernel
theorem dX0_latestPledge_63 : decode cX0_latestPledge 63 = .ok (.goto 4, 3) := by decide +kernel
theorem dX0_latestPledge_66 : decode cX0_latestPledge 66 = .ok (.iconst (-1), 1) := by decide +kernel
theorem dX0_latestPledge_67 : decode cX0_latestPledge 67 = .ok (.ireturn, 1) := by decide +kernel
set_option maxRecDepth 20000 in
theorem ggX0_versionCostingLeast_X0_firstDayUnserved : GoodIn wsX0_versionCostingLeast wsX0_firstDayUnserved := goodIn_r _ [7, 8, 9, 10, 11, 12, 13, 14, 6, 15, 1, 16, 17, 18, 19, 20, 21, 22, 23, 24, 25, 26, 27, 28, 29, 30, 31, 32, 33, 34, 35, 36, 37, 38, 39, 40, 41, 42, 2, 43, 44, 45, 46, 47, 48, 49, 50, 51, 52, 53, 74, 75, 76, 77, 78, 79, 80, 81, 82, 83, 84, 85, 86, 87, 88, 89, 90, 91, 92, 93, 94, 95] (by decide +kernel) (by decide +kernel)
set_option maxRecDepth 20000 in
theorem gX0_versionCostingLeast_X0_firstDayUnserved : GoodIn wsX0_versionCostingLeast (wsV RX0 160 RX0 yX0_firstDayUnserved wsX0_firstDayUnserved) := goodIn_app (goodIn_of _ (by decide +kernel)) ggX0_versionCostingLeast_X0_firstDayUnserved
set_option maxRecDepth 20000 in
theorem ggX0_versionCostingLeast_X0_costOfOne : GoodIn wsX0_versionCostingLeast wsX0_costOfOne := goodIn_r _ [57, 58, 59, 10, 60, 8, 9, 11, 39, 40, 41, 6, 42, 1, 2, 43, 44, 45, 46, 47, 17, 48, 49, 50, 51, 52, 53, 61, 62, 63, 64, 16, 65, 18, 19, 20, 21, 22, 23, 24, 66, 67, 68, 69, 70, 71, 28, 72, 30, 31, 73, 32, 33, 34, 35, 36, 37, 38, 74, 75, 76, 77, 78, 79, 80, 81, 82, 89, 90, 91, 92, 93, 94, 95, 83, 84, 85, 86, 87, 88] (by decide +kernel) (by decide +kernel)
set_option maxRecDepth 20000 in
theorem gX0_versionCostingLeast_X0_costOfOne : GoodIn wsX0_versionCostingLeast (wsV RX0 167 RX0 yX0_costOfOne wsX0_costOfOne) := goodIn_app (goodIn_of _ (by decide +kernel)) ggX0_versionCostingLeast_X0_costOfOne
theorem dX0_versionCostingLeast_0 : decode cX0_versionCostingLeast 0 = .ok (.iconst (-1), 1) := by decide +kernel
theorem dX0_versionCostingLeast_1 : decode cX0_versionCostingLeast 1 = .ok (.istore 4, 2) := by decide +kernel
theorem dX0_versionCostingLeast_3 : decode cX0_versionCostingLeast 3 = .ok (.iconst 0, 1) := by decide +kernel
theorem dX0_versionCostingLeast_4 : decode cX0_versionCostingLeast 4 = .ok (.istore 5, 2) := by decide +kernel
theorem dX0_versionCostingLeast_6 : decode cX0_versionCostingLeast 6 = .ok (.iconst 0, 1) := by decide +kernel
theorem dX0_versionCostingLeast_7 : decode cX0_versionCostingLeast 7 = .ok (.istore 6, 2) := by decide +kernel
theorem dX0_versionCostingLeast_9 : decode cX0_versionCostingLeast 9 = .ok (.iload 6, 2) := by decide +kernel
theorem dX0_versionCostingLeast_11 : decode cX0_versionCostingLeast 11 = .ok (.aload_n 0, 1) := by decide +kernel
theorem dX0_versionCostingLeast_12 : decode cX0_versionCostingLeast 12 = .ok (.getfield 12, 3) := by decide +kernel
theorem dX0_versionCostingLeast_15 : decode cX0_versionCostingLeast 15 = .ok (.getfield 46, 3) := by decide +kernel
theorem dX0_versionCostingLeast_18 : decode cX0_versionCostingLeast 18 = .ok (.if_icmp .ge 54, 3) := by decide +kernel
theorem dX0_versionCostingLeast_21 : decode cX0_versionCostingLeast 21 = .ok (.aload_n 0, 1) := by decide +kernel
theorem dX0_versionCostingLeast_22 : decode cX0_versionCostingLeast 22 = .ok (.iload_n 1, 1) := by decide +kernel
theorem dX0_versionCostingLeast_23 : decode cX0_versionCostingLeast 23 = .ok (.iload 6, 2) := by decide +kernel
theorem dX0_versionCostingLeast_25 : decode cX0_versionCostingLeast 25 = .ok (.iload_n 2, 1) := by decide +kernel
theorem dX0_versionCostingLeast_26 : decode cX0_versionCostingLeast 26 = .ok (.iload_n 3, 1) := by decide +kernel
theorem dX0_versionCostingLeast_27 : decode cX0_versionCostingLeast 27 = .ok (.invokevirtual 160, 3) := by decide +kernel
theorem dX0_versionCostingLeast_30 : decode cX0_versionCostingLeast 30 = .ok (.iconst (-1), 1) := by decide +kernel
theorem dX0_versionCostingLeast_31 : decode cX0_versionCostingLeast 31 = .ok (.if_icmp .ne 35, 3) := by decide +kernel
theorem dX0_versionCostingLeast_34 : decode cX0_versionCostingLeast 34 = .ok (.aload_n 0, 1) := by decide +kernel
theorem dX0_versionCostingLeast_35 : decode cX0_versionCostingLeast 35 = .ok (.iload_n 1, 1) := by decide +kernel
theorem dX0_versionCostingLeast_36 : decode cX0_versionCostingLeast 36 = .ok (.iload 6, 2) := by decide +kernel
theorem dX0_versionCostingLeast_38 : decode cX0_versionCostingLeast 38 = .ok (.iload_n 2, 1) := by decide +kernel
theorem dX0_versionCostingLeast_39 : decode cX0_versionCostingLeast 39 = .ok (.iload_n 3, 1) := by decide +kernel
theorem dX0_versionCostingLeast_40 : decode cX0_versionCostingLeast 40 = .ok (.invokevirtual 167, 3) := by decide +kernel
theorem dX0_versionCostingLeast_43 : decode cX0_versionCostingLeast 43 = .ok (.istore 7, 2) := by decide +kernel
theorem dX0_versionCostingLeast_45 : decode cX0_versionCostingLeast 45 = .ok (.iload 4, 2) := by decide +kernel
theorem dX0_versionCostingLeast_47 : decode cX0_versionCostingLeast 47 = .ok (.iconst (-1), 1) := by decide +kernel
theorem dX0_versionCostingLeast_48 : decode cX0_versionCostingLeast 48 = .ok (.if_icmp .eq 10, 3) := by decide +kernel
theorem dX0_versionCostingLeast_51 : decode cX0_versionCostingLeast 51 = .ok (.iload 7, 2) := by decide +kernel
theorem dX0_versionCostingLeast_53 : decode cX0_versionCostingLeast 53 = .ok (.iload 5, 2) := by decide +kernel
theorem dX0_versionCostingLeast_55 : decode cX0_versionCostingLeast 55 = .ok (.if_icmp .ge 11, 3) := by decide +kernel
theorem dX0_versionCostingLeast_58 : decode cX0_versionCostingLeast 58 = .ok (.iload 6, 2) := by decide +kernel
theorem dX0_versionCostingLeast_60 : decode cX0_versionCostingLeast 60 = .ok (.istore 4, 2) := by decide +kernel
theorem dX0_versionCostingLeast_62 : decode cX0_versionCostingLeast 62 = .ok (.iload 7, 2) := by decide +kernel
theorem dX0_versionCostingLeast_64 : decode cX0_versionCostingLeast 64 = .ok (.istore 5, 2) := by decide +kernel
theorem dX0_versionCostingLeast_66 : decode cX0_versionCostingLeast 66 = .ok (.iinc 6 1, 3) := by decide +kernel
theorem dX0_versionCostingLeast_69 : decode cX0_versionCostingLeast 69 = .ok (.goto (-60), 3) := by decide +kernel
theorem dX0_versionCostingLeast_72 : decode cX0_versionCostingLeast 72 = .ok (.iload 4, 2) := by decide +kernel
theorem dX0_versionCostingLeast_74 : decode cX0_versionCostingLeast 74 = .ok (.ireturn, 1) := by decide +kernel
theorem dJ6_bitCount_0f7a4_0 : decode cJ6_bitCount_0f7a4 0 = .ok (.iload_n 0, 1) := by decide +kernel
theorem dJ6_bitCount_0f7a4_1 : decode cJ6_bitCount_0f7a4 1 = .ok (.iload_n 0, 1) := by decide +kernel
theorem dJ6_bitCount_0f7a4_2 : decode cJ6_bitCount_0f7a4 2 = .ok (.iconst 1, 1) := by decide +kernel
theorem dJ6_bitCount_0f7a4_3 : decode cJ6_bitCount_0f7a4 3 = .ok (.iushr, 1) := by decide +kernel
theorem dJ6_bitCount_0f7a4_4 : decode cJ6_bitCount_0f7a4 4 = .ok (.ldc_w 265, 3) := by decide +kernel
theorem dJ6_bitCount_0f7a4_7 : decode cJ6_bitCount_0f7a4 7 = .ok (.iand, 1) := by decide +kernel
theorem dJ6_bitCount_0f7a4_8 : decode cJ6_bitCount_0f7a4 8 = .ok (.isub, 1) := by decide +kernel
theorem dJ6_bitCount_0f7a4_9 : decode cJ6_bitCount_0f7a4 9 = .ok (.istore_n 0, 1) := by decide +kernel
theorem dJ6_bitCount_0f7a4_10 : decode cJ6_bitCount_0f7a4 10 = .ok (.iload_n 0, 1) := by decide +kernel
theorem dJ6_bitCount_0f7a4_11 : decode cJ6_bitCount_0f7a4 11 = .ok (.ldc_w 266, 3) := by decide +kernel
theorem dJ6_bitCount_0f7a4_14 : decode cJ6_bitCount_0f7a4 14 = .ok (.iand, 1) := by decide +kernel
theorem dJ6_bitCount_0f7a4_15 : decode cJ6_bitCount_0f7a4 15 = .ok (.iload_n 0, 1) := by decide +kernel
theorem dJ6_bitCount_0f7a4_16 : decode cJ6_bitCount_0f7a4 16 = .ok (.iconst 2, 1) := by decide +kernel
theorem dJ6_bitCount_0f7a4_17 : decode cJ6_bitCount_0f7a4 17 = .ok (.iushr, 1) := by decide +kernel
theorem dJ6_bitCount_0f7a4_18 : decode cJ6_bitCount_0f7a4 18 = .ok (.ldc_w 266, 3) := by decide +kernel
theorem dJ6_bitCount_0f7a4_21 : decode cJ6_bitCount_0f7a4 21 = .ok (.iand, 1) := by decide +kernel
theorem dJ6_bitCount_0f7a4_22 : decode cJ6_bitCount_0f7a4 22 = .ok (.iadd, 1) := by decide +kernel
theorem dJ6_bitCount_0f7a4_23 : decode cJ6_bitCount_0f7a4 23 = .ok (.istore_n 0, 1) := by decide +kernel
theorem dJ6_bitCount_0f7a4_24 : decode cJ6_bitCount_0f7a4 24 = .ok (.iload_n 0, 1) := by decide +kernel
theorem dJ6_bitCount_0f7a4_25 : decode cJ6_bitCount_0f7a4 25 = .ok (.iload_n 0, 1) := by decide +kernel
theorem dJ6_bitCount_0f7a4_26 : decode cJ6_bitCount_0f7a4 26 = .ok (.iconst 4, 1) := by decide +kernel
theorem dJ6_bitCount_0f7a4_27 : decode cJ6_bitCount_0f7a4 27 = .ok (.iushr, 1) := by decide +kernel
theorem dJ6_bitCount_0f7a4_28 : decode cJ6_bitCount_0f7a4 28 = .ok (.iadd, 1) := by decide +kernel
theorem dJ6_bitCount_0f7a4_29 : decode cJ6_bitCount_0f7a4 29 = .ok (.ldc_w 267, 3) := by decide +kernel
theorem dJ6_bitCount_0f7a4_32 : decode cJ6_bitCount_0f7a4 32 = .ok (.iand, 1) := by decide +kernel
theorem dJ6_bitCount_0f7a4_33 : decode cJ6_bitCount_0f7a4 33 = .ok (.istore_n 0, 1) := by decide +kernel
theorem dJ6_bitCount_0f7a4_34 : decode cJ6_bitCount_0f7a4 34 = .ok (.iload_n 0, 1) := by decide +kernel
theorem dJ6_bitCount_0f7a4_35 : decode cJ6_bitCount_0f7a4 35 = .ok (.iload_n 0, 1) := by decide +kernel
theorem dJ6_bitCount_0f7a4_36 : decode cJ6_bitCount_0f7a4 36 = .ok (.bipush 8, 2) := by decide +kernel
theorem dJ6_bitCount_0f7a4_38 : decode cJ6_bitCount_0f7a4 38 = .ok (.iushr, 1) := by decide +kernel
theorem dJ6_bitCount_0f7a4_39 : decode cJ6_bitCount_0f7a4 39 = .ok (.iadd, 1) := by decide +kernel
theorem dJ6_bitCount_0f7a4_40 : decode cJ6_bitCount_0f7a4 40 = .ok (.istore_n 0, 1) := by decide +kernel
theorem dJ6_bitCount_0f7a4_41 : decode cJ6_bitCount_0f7a4 41 = .ok (.iload_n 0, 1) := by decide +kernel
theorem dJ6_bitCount_0f7a4_42 : decode cJ6_bitCount_0f7a4 42 = .ok (.iload_n 0, 1) := by decide +kernel
theorem dJ6_bitCount_0f7a4_43 : decode cJ6_bitCount_0f7a4 43 = .ok (.bipush 16, 2) := by decide +kernel
theorem dJ6_bitCount_0f7a4_45 : decode cJ6_bitCount_0f7a4 45 = .ok (.iushr, 1) := by decide +kernel
theorem dJ6_bitCount_0f7a4_46 : decode cJ6_bitCount_0f7a4 46 = .ok (.iadd, 1) := by decide +kernel
theorem dJ6_bitCount_0f7a4_47 : decode cJ6_bitCount_0f7a4 47 = .ok (.istore_n 0, 1) := by decide +kernel
theorem dJ6_bitCount_0f7a4_48 : decode cJ6_bitCount_0f7a4 48 = .ok (.iload_n 0, 1) := by decide +kernel
theorem dJ6_bitCount_0f7a4_49 : decode cJ6_bitCount_0f7a4 49 = .ok (.bipush 63, 2) := by decide +kernel
theorem dJ6_bitCount_0f7a4_51 : decode cJ6_bitCount_0f7a4 51 = .ok (.iand, 1) := by decide +kernel
theorem dJ6_bitCount_0f7a4_52 : decode cJ6_bitCount_0f7a4 52 = .ok (.ireturn, 1) := by decide +kernel
theorem dJ9_max_7cf53_0 : decode cJ9_max_7cf53 0 = .ok (.iload_n 0, 1) := by decide +kernel
theorem dJ9_max_7cf53_1 : decode cJ9_max_7cf53 1 = .ok (.iload_n 1, 1) := by decide +kernel
theorem dJ9_max_7cf53_2 : decode cJ9_max_7cf53 2 = .ok (.if_icmp .lt 7, 3) := by decide +kernel
theorem dJ9_max_7cf53_5 : decode cJ9_max_7cf53 5 = .ok (.iload_n 0, 1) := by decide +kernel
theorem dJ9_max_7cf53_6 : decode cJ9_max_7cf53 6 = .ok (.goto 4, 3) := by decide +kernel
theorem dJ9_max_7cf53_9 : decode cJ9_max_7cf53 9 = .ok (.iload_n 1, 1) := by decide +kernel
theorem dJ9_max_7cf53_10 : decode cJ9_max_7cf53 10 = .ok (.ireturn, 1) := by decide +kernel
theorem dJ9_min_7cf53_0 : decode cJ9_min_7cf53 0 = .ok (.iload_n 0, 1) := by decide +kernel
theorem dJ9_min_7cf53_1 : decode cJ9_min_7cf53 1 = .ok (.iload_n 1, 1) := by decide +kernel
theorem dJ9_min_7cf53_2 : decode cJ9_min_7cf53 2 = .ok (.if_icmp .gt 7, 3) := by decide +kernel
theorem dJ9_min_7cf53_5 : decode cJ9_min_7cf53 5 = .ok (.iload_n 0, 1) := by decide +kernel
theorem dJ9_min_7cf53_6 : decode cJ9_min_7cf53 6 = .ok (.goto 4, 3) := by decide +kernel
theorem dJ9_min_7cf53_9 : decode cJ9_min_7cf53 9 = .ok (.iload_n 1, 1) := by decide +kernel
theorem dJ9_min_7cf53_10 : decode cJ9_min_7cf53 10 = .ok (.ireturn, 1) := by decide +kernel
