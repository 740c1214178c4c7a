theorem dX6_shim_23 : decode cX6_shim 23 = .ok (.goto 4, 3) := by decide +kernel
theorem dX6_shim_26 : decode cX6_shim 26 = .ok (.iconst 0, 1) := by decide +kernel
theorem dX6_shim_27 : decode cX6_shim 27 = .ok (.putfield 19, 3) := by decide +kernel
theorem dX6_shim_30 : decode cX6_shim 30 = .ok (.aload_n 0, 1) := by decide +kernel
theorem dX6_shim_31 : decode cX6_shim 31 = .ok (.getfield 19, 3) := by decide +kernel
theorem dX6_shim_34 : decode cX6_shim 34 = .ok (.ifCond .le 7, 3) := by decide +kernel
theorem dX6_shim_37 : decode cX6_shim 37 = .ok (.iconst 0, 1) := by decide +kernel
theorem dX6_shim_38 : decode cX6_shim 38 = .ok (.goto 9, 3) := by decide +kernel
theorem dX6_shim_41 : decode cX6_shim 41 = .ok (.aload_n 0, 1) := by decide +kernel
theorem dX6_shim_42 : decode cX6_shim 42 = .ok (.iload_n 1, 1) := by decide +kernel
theorem dX6_shim_43 : decode cX6_shim 43 = .ok (.iload_n 2, 1) := by decide +kernel
theorem dX6_shim_44 : decode cX6_shim 44 = .ok (.invokevirtual 93, 3) := by decide +kernel
theorem dX6_shim_47 : decode cX6_shim 47 = .ok (.ireturn, 1) := by decide +kernel
set_option maxRecDepth 20000 in
theorem ggX6_on_X6_ofUser : GoodIn wsX6_on wsX6_ofUser := goodIn_r _ [5, 6, 7, 8, 9, 10, 11, 12, 13, 14, 15, 16, 17, 18, 19, 20] (by decide +kernel) (by decide +kernel)
set_option maxRecDepth 20000 in
theorem gX6_on_X6_ofUser : GoodIn wsX6_on (wsV RX6 61 RX6 yX6_ofUser wsX6_ofUser) := goodIn_app (goodIn_of _ (by decide +kernel)) ggX6_on_X6_ofUser
theorem dX6_on_0 : decode cX6_on 0 = .ok (.aload_n 0, 1) := by decide +kernel
theorem dX6_on_1 : decode cX6_on 1 = .ok (.iload_n 1, 1) := by decide +kernel
theorem dX6_on_2 : decode cX6_on 2 = .ok (.iconst 2, 1) := by decide +kernel
theorem dX6_on_3 : decode cX6_on 3 = .ok (.invokevirtual 61, 3) := by decide +kernel
theorem dX6_on_6 : decode cX6_on 6 = .ok (.iconst (-1), 1) := by decide +kernel
theorem dX6_on_7 : decode cX6_on 7 = .ok (.if_icmp .eq 22, 3) := by decide +kernel
theorem dX6_on_10 : decode cX6_on 10 = .ok (.aload_n 0, 1) := by decide +kernel
theorem dX6_on_11 : decode cX6_on 11 = .ok (.iload_n 1, 1) := by decide +kernel
theorem dX6_on_12 : decode cX6_on 12 = .ok (.iconst 3, 1) := by decide +kernel
theorem dX6_on_13 : decode cX6_on 13 = .ok (.invokevirtual 61, 3) := by decide +kernel
theorem dX6_on_16 : decode cX6_on 16 = .ok (.iload_n 2, 1) := by decide +kernel
theorem dX6_on_17 : decode cX6_on 17 = .ok (.if_icmp .gt 12, 3) := by decide +kernel
theorem dX6_on_20 : decode cX6_on 20 = .ok (.aload_n 0, 1) := by decide +kernel
theorem dX6_on_21 : decode cX6_on 21 = .ok (.iload_n 1, 1) := by decide +kernel
theorem dX6_on_22 : decode cX6_on 22 = .ok (.iconst 2, 1) := by decide +kernel
theorem dX6_on_23 : decode cX6_on 23 = .ok (.invokevirtual 61, 3) := by decide +kernel
theorem dX6_on_26 : decode cX6_on 26 = .ok (.goto 9, 3) := by decide +kernel
theorem dX6_on_29 : decode cX6_on 29 = .ok (.aload_n 0, 1) := by decide +kernel
theorem dX6_on_30 : decode cX6_on 30 = .ok (.iload_n 1, 1) := by decide +kernel
theorem dX6_on_31 : decode cX6_on 31 = .ok (.iconst 0, 1) := by decide +kernel
theorem dX6_on_32 : decode cX6_on 32 = .ok (.invokevirtual 61, 3) := by decide +kernel
theorem dX6_on_35 : decode cX6_on 35 = .ok (.ireturn, 1) := by decide +kernel
set_option maxRecDepth 20000 in
theorem ggX6_versionOn_X6_isUser : GoodIn wsX6_versionOn wsX6_isUser := goodIn_r _ [6, 7, 8, 9, 5, 10, 22, 23, 24, 25, 26, 27, 28, 29, 30, 31, 32, 33, 34, 35] (by decide +kernel) (by decide +kernel)
set_option maxRecDepth 20000 in
theorem gX6_versionOn_X6_isUser : GoodIn wsX6_versionOn (wsV RX6 48 RX6 yX6_isUser wsX6_isUser) := goodIn_app (goodIn_of _ (by decide +kernel)) ggX6_versionOn_X6_isUser
set_option maxRecDepth 20000 in
theorem ggX6_versionOn_X6_isDay : GoodIn wsX6_versionOn wsX6_isDay := goodIn_r _ [13, 8, 9, 5, 10] (by decide +kernel) (by decide +kernel)
set_option maxRecDepth 20000 in
theorem gX6_versionOn_X6_isDay : GoodIn wsX6_versionOn (va_wsS RX6 51 yX6_isDay wsX6_isDay) := goodIn_app (goodIn_of _ (by decide +kernel)) ggX6_versionOn_X6_isDay
set_option maxRecDepth 20000 in
theorem ggX6_versionOn_X6_on : GoodIn wsX6_versionOn wsX6_on := goodIn_r _ [17, 18, 19, 20, 5, 21, 7, 22, 23, 24, 25, 26, 27, 28, 29, 30, 31, 32, 33, 34, 35] (by decide +kernel) (by decide +kernel)
set_option maxRecDepth 20000 in
theorem gX6_versionOn_X6_on : GoodIn wsX6_versionOn (wsV RX6 105 RX6 yX6_on wsX6_on) := goodIn_app (goodIn_of _ (by decide +kernel)) ggX6_versionOn_X6_on
theorem dX6_versionOn_0 : decode cX6_versionOn 0 = .ok (.aload_n 0, 1) := by decide +kernel
theorem dX6_versionOn_1 : decode cX6_versionOn 1 = .ok (.aload_n 0, 1) := by decide +kernel
theorem dX6_versionOn_2 : decode cX6_versionOn 2 = .ok (.iload_n 1, 1) := by decide +kernel
theorem dX6_versionOn_3 : decode cX6_versionOn 3 = .ok (.invokevirtual 48, 3) := by decide +kernel
theorem dX6_versionOn_6 : decode cX6_versionOn 6 = .ok (.ifCond .ne 7, 3) := by decide +kernel
theorem dX6_versionOn_9 : decode cX6_versionOn 9 = .ok (.iconst 1, 1) := by decide +kernel
theorem dX6_versionOn_10 : decode cX6_versionOn 10 = .ok (.goto 15, 3) := by decide +kernel
theorem dX6_versionOn_13 : decode cX6_versionOn 13 = .ok (.iload_n 2, 1) := by decide +kernel
theorem dX6_versionOn_14 : decode cX6_versionOn 14 = .ok (.invokestatic 51, 3) := by decide +kernel
theorem dX6_versionOn_17 : decode cX6_versionOn 17 = .ok (.ifCond .ne 7, 3) := by decide +kernel
theorem dX6_versionOn_20 : decode cX6_versionOn 20 = .ok (.iconst 2, 1) := by decide +kernel
theorem dX6_versionOn_21 : decode cX6_versionOn 21 = .ok (.goto 4, 3) := by decide +kernel
theorem dX6_versionOn_24 : decode cX6_versionOn 24 = .ok (.iconst 0, 1) := by decide +kernel
theorem dX6_versionOn_25 : decode cX6_versionOn 25 = .ok (.putfield 19, 3) := by decide +kernel
theorem dX6_versionOn_28 : decode cX6_versionOn 28 = .ok (.aload_n 0, 1) := by decide +kernel
theorem dX6_versionOn_29 : decode cX6_versionOn 29 = .ok (.getfield 19, 3) := by decide +kernel
theorem dX6_versionOn_32 : decode cX6_versionOn 32 = .ok (.ifCond .le 7, 3) := by decide +kernel
theorem dX6_versionOn_35 : decode cX6_versionOn 35 = .ok (.iconst 0, 1) := by decide +kernel
theorem dX6_versionOn_36 : decode cX6_versionOn 36 = .ok (.goto 9, 3) := by decide +kernel
theorem dX6_versionOn_39 : decode cX6_versionOn 39 = .ok (.aload_n 0, 1) := by decide +kernel
theorem dX6_versionOn_40 : decode cX6_versionOn 40 = .ok (.iload_n 1, 1) := by decide +kernel
theorem dX6_versionOn_41 : decode cX6_versionOn 41 = .ok (.iload_n 2, 1) := by decide +kernel
theorem dX6_versionOn_42 : decode cX6_versionOn 42 = .ok (.invokevirtual 105, 3) := by decide +kernel
theorem dX6_versionOn_45 : decode cX6_versionOn 45 = .ok (.ireturn, 1) := by decide +kernel
set_option maxRecDepth 20000 in
theorem ggX6_cheapestShim_X6_ofShim : GoodIn wsX6_cheapestShim wsX6_ofShim := goodIn_r _ [6, 1, 10, 11, 12, 13, 14, 15, 16, 17, 18, 19, 20, 21, 22, 23] (by decide +kernel) (by decide +kernel)
set_option maxRecDepth 20000 in
theorem gX6_cheapestShim_X6_ofShim : GoodIn wsX6_cheapestShim (wsV RX6 93 RX6 yX6_ofShim wsX6_ofShim) := goodIn_app (goodIn_of _ (by decide +kernel)) ggX6_cheapestShim_X6_ofShim
set_option maxRecDepth 20000 in
theorem ggX6_cheapestShim_X6_in : GoodIn wsX6_cheapestShim wsX6_in := goodIn_r _ [9] (by decide +kernel) (by decide +kernel)
set_option maxRecDepth 20000 in
theorem gX6_cheapestShim_X6_in : GoodIn wsX6_cheapestShim (va_wsS RX6 23 yX6_in wsX6_in) := goodIn_app (goodIn_of _ (by decide +kernel)) ggX6_cheapestShim_X6_in
theorem dX6_cheapestShim_0 : decode cX6_cheapestShim 0 = .ok (.iconst 0, 1) := by decide +kernel
theorem dX6_cheapestShim_1 : decode cX6_cheapestShim 1 = .ok (.istore 4, 2) := by decide +kernel
theorem dX6_cheapestShim_3 : decode cX6_cheapestShim 3 = .ok (.iconst 0, 1) := by decide +kernel
theorem dX6_cheapestShim_4 : decode cX6_cheapestShim 4 = .ok (.istore 5, 2) := by decide +kernel
theorem dX6_cheapestShim_6 : decode cX6_cheapestShim 6 = .ok (.iload 5, 2) := by decide +kernel
theorem dX6_cheapestShim_8 : decode cX6_cheapestShim 8 = .ok (.aload_n 0, 1) := by decide +kernel
theorem dX6_cheapestShim_9 : decode cX6_cheapestShim 9 = .ok (.getfield 7, 3) := by decide +kernel
theorem dX6_cheapestShim_12 : decode cX6_cheapestShim 12 = .ok (.iconst 3, 1) := by decide +kernel
theorem dX6_cheapestShim_13 : decode cX6_cheapestShim 13 = .ok (.iaload, 1) := by decide +kernel
theorem dX6_cheapestShim_14 : decode cX6_cheapestShim 14 = .ok (.if_icmp .ge 95, 3) := by decide +kernel
theorem dX6_cheapestShim_17 : decode cX6_cheapestShim 17 = .ok (.aload_n 0, 1) := by decide +kernel
theorem dX6_cheapestShim_18 : decode cX6_cheapestShim 18 = .ok (.iload 5, 2) := by decide +kernel
theorem dX6_cheapestShim_20 : decode cX6_cheapestShim 20 = .ok (.iconst 0, 1) := by decide +kernel
theorem dX6_cheapestShim_21 : decode cX6_cheapestShim 21 = .ok (.invokevirtual 93, 3) := by decide +kernel
theorem dX6_cheapestShim_24 : decode cX6_cheapestShim 24 = .ok (.iload_n 1, 1) := by decide +kernel
theorem dX6_cheapestShim_25 : decode cX6_cheapestShim 25 = .ok (.if_icmp .ne 39, 3) := by decide +kernel
theorem dX6_cheapestShim_28 : decode cX6_cheapestShim 28 = .ok (.aload_n 0, 1) := by decide +kernel
theorem dX6_cheapestShim_29 : decode cX6_cheapestShim 29 = .ok (.iload 5, 2) := by decide +kernel
theorem dX6_cheapestShim_31 : decode cX6_cheapestShim 31 = .ok (.iconst 1, 1) := by decide +kernel
theorem dX6_cheapestShim_32 : decode cX6_cheapestShim 32 = .ok (.invokevirtual 93, 3) := by decide +kernel
theorem dX6_cheapestShim_35 : decode cX6_cheapestShim 35 = .ok (.iload_n 2, 1) := by decide +kernel
theorem dX6_cheapestShim_36 : decode cX6_cheapestShim 36 = .ok (.if_icmp .ne 28, 3) := by decide +kernel
theorem dX6_cheapestShim_39 : decode cX6_cheapestShim 39 = .ok (.iload_n 3, 1) := by decide +kernel
theorem dX6_cheapestShim_40 : decode cX6_cheapestShim 40 = .ok (.aload_n 0, 1) := by decide +kernel
theorem dX6_cheapestShim_41 : decode cX6_cheapestShim 41 = .ok (.iload 5, 2) := by decide +kernel
theorem dX6_cheapestShim_43 : decode cX6_cheapestShim 43 = .ok (.iconst 2, 1) := by decide +kernel
theorem dX6_cheapestShim_44 : decode cX6_cheapestShim 44 = .ok (.invokevirtual 93, 3) := by decide +kernel
theorem dX6_cheapestShim_47 : decode cX6_cheapestShim 47 = .ok (.aload_n 0, 1) := by decide +kernel
theorem dX6_cheapestShim_48 : decode cX6_cheapestShim 48 = .ok (.iload 5, 2) := by decide +kernel
theorem dX6_cheapestShim_50 : decode cX6_cheapestShim 50 = .ok (.iconst 3, 1) := by decide +kernel
theorem dX6_cheapestShim_51 : decode cX6_cheapestShim 51 = .ok (.invokevirtual 93, 3) := by decide +kernel
theorem dX6_cheapestShim_54 : decode cX6_cheapestShim 54 = .ok (.invokestatic 23, 3) := by decide +kernel
theorem dX6_cheapestShim_57 : decode cX6_cheapestShim 57 = .ok (.ifCond .eq 7, 3) := by decide +kernel
theorem dX6_cheapestShim_60 : decode cX6_cheapestShim 60 = .ok (.iconst 1, 1) := by decide +kernel
theorem dX6_cheapestShim_61 : decode cX6_cheapestShim 61 = .ok (.goto 4, 3) := by decide +kernel
theorem dX6_cheapestShim_64 : decode cX6_cheapestShim 64 = .ok (.iconst 0, 1) := by decide +kernel
theorem dX6_cheapestShim_65 : decode cX6_cheapestShim 65 = .ok (.istore 6, 2) := by decide +kernel
theorem dX6_cheapestShim_67 : decode cX6_cheapestShim 67 = .ok (.iload 6, 2) := by decide +kernel
theorem dX6_cheapestShim_69 : decode cX6_cheapestShim 69 = .ok (.ifCond .eq 30, 3) := by decide +kernel
theorem dX6_cheapestShim_72 : decode cX6_cheapestShim 72 = .ok (.iload 4, 2) := by decide +kernel
theorem dX6_cheapestShim_74 : decode cX6_cheapestShim 74 = .ok (.ifCond .eq 15, 3) := by decide +kernel
theorem dX6_cheapestShim_77 : decode cX6_cheapestShim 77 = .ok (.aload_n 0, 1) := by decide +kernel
theorem dX6_cheapestShim_78 : decode cX6_cheapestShim 78 = .ok (.iload 5, 2) := by decide +kernel
theorem dX6_cheapestShim_80 : decode cX6_cheapestShim 80 = .ok (.iconst 4, 1) := by decide +kernel
theorem dX6_cheapestShim_81 : decode cX6_cheapestShim 81 = .ok (.invokevirtual 93, 3) := by decide +kernel
theorem dX6_cheapestShim_84 : decode cX6_cheapestShim 84 = .ok (.iload 4, 2) := by decide +kernel
theorem dX6_cheapestShim_86 : decode cX6_cheapestShim 86 = .ok (.if_icmp .ge 13, 3) := by decide +kernel
theorem dX6_cheapestShim_89 : decode cX6_cheapestShim 89 = .ok (.aload_n 0, 1) := by decide +kernel
theorem dX6_cheapestShim_90 : decode cX6_cheapestShim 90 = .ok (.iload 5, 2) := by decide +kernel
theorem dX6_cheapestShim_92 : decode cX6_cheapestShim 92 = .ok (.iconst 4, 1) := by decide +kernel
theorem dX6_cheapestShim_93 : decode cX6_cheapestShim 93 = .ok (.invokevirtual 93, 3) := by decide +kernel
theorem dX6_cheapestShim_96 : decode cX6_cheapestShim 96 = .ok (.goto 5, 3) := by decide +kernel
theorem dX6_cheapestShim_99 : decode cX6_cheapestShim 99 = .ok (.iload 4, 2) := by decide +kernel
theorem dX6_cheapestShim_101 : decode cX6_cheapestShim 101 = .ok (.istore 4, 2) := by decide +kernel
theorem dX6_cheapestShim_103 : decode cX6_cheapestShim 103 = .ok (.iinc 5 1, 3) := by decide +kernel
theorem dX6_cheapestShim_106 : decode cX6_cheapestShim 106 = .ok (.goto (-100), 3) := by decide +kernel
theorem dX6_cheapestShim_109 : decode cX6_cheapestShim 109 = .ok (.iload 4, 2) := by decide +kernel
theorem dX6_cheapestShim_111 : decode cX6_cheapestShim 111 = .ok (.ireturn, 1) := by decide +kernel
set_option maxRecDepth 20000 in
theorem ggX6_servedOn_X6_release : GoodIn wsX6_servedOn wsX6_release := goodIn_r _ [6, 1, 25, 26, 27, 28, 29, 30, 31, 32, 33, 34, 35, 36, 37, 38] (by decide +kernel) (by decide +kernel)
set_option maxRecDepth 20000 in
theorem gX6_servedOn_X6_release : GoodIn wsX6_servedOn (wsV RX6 108 RX6 yX6_release wsX6_release) := goodIn_app (goodIn_of _ (by decide +kernel)) ggX6_servedOn_X6_release
set_option maxRecDepth 20000 in
theorem ggX6_servedOn_X6_end : GoodIn wsX6_servedOn wsX6_end := goodIn_r _ [10, 1, 25, 26, 27, 28, 29, 30, 31, 32, 33, 34, 35, 36, 37, 38] (by decide +kernel) (by decide +kernel)
set_option maxRecDepth 20000 in
theorem gX6_servedOn_X6_end : GoodIn wsX6_servedOn (wsV RX6 71 RX6 yX6_end wsX6_end) := goodIn_app (goodIn_of _ (by decide +kernel)) ggX6_servedOn_X6_end
set_option maxRecDepth 20000 in
theorem ggX6_servedOn_X6_has : GoodIn wsX6_servedOn wsX6_has := goodIn_r _ [13] (by decide +kernel) (by decide +kernel)
set_option maxRecDepth 20000 in
theorem gX6_servedOn_X6_has : GoodIn wsX6_servedOn (va_wsS RX6 44 yX6_has wsX6_has) := goodIn_app (goodIn_of _ (by decide +kernel)) ggX6_servedOn_X6_has
set_option maxRecDepth 20000 in
theorem ggX6_servedOn_X6_cheapestShim : GoodIn wsX6_servedOn wsX6_cheapestShim := goodIn_r _ [17, 1, 18, 19, 20, 5, 21, 22, 23, 24, 25, 26, 27, 28, 29, 30, 31, 32, 33, 34, 35, 36, 37, 38] (by decide +kernel) (by decide +kernel)
set_option maxRecDepth 20000 in
theorem gX6_servedOn_X6_cheapestShim : GoodIn wsX6_servedOn (wsV RX6 111 RX6 yX6_cheapestShim wsX6_cheapestShim) := goodIn_app (goodIn_of _ (by decide +kernel)) ggX6_servedOn_X6_cheapestShim
theorem dX6_servedOn_0 : decode cX6_servedOn 0 = .ok (.iload_n 3, 1) := by decide +kernel
theorem dX6_servedOn_1 : decode cX6_servedOn 1 = .ok (.aload_n 0, 1) := by decide +kernel
theorem dX6_servedOn_2 : decode cX6_servedOn 2 = .ok (.iload_n 1, 1) := by decide +kernel
theorem dX6_servedOn_3 : decode cX6_servedOn 3 = .ok (.invokevirtual 108, 3) := by decide +kernel
theorem dX6_servedOn_6 : decode cX6_servedOn 6 = .ok (.if_icmp .ge 5, 3) := by decide +kernel
theorem dX6_servedOn_9 : decode cX6_servedOn 9 = .ok (.iconst 2, 1) := by decide +kernel
theorem dX6_servedOn_10 : decode cX6_servedOn 10 = .ok (.ireturn, 1) := by decide +kernel
theorem dX6_servedOn_11 : decode cX6_servedOn 11 = .ok (.iload_n 3, 1) := by decide +kernel
theorem dX6_servedOn_12 : decode cX6_servedOn 12 = .ok (.aload_n 0, 1) := by decide +kernel
theorem dX6_servedOn_13 : decode cX6_servedOn 13 = .ok (.iload_n 1, 1) := by decide +kernel
theorem dX6_servedOn_14 : decode cX6_servedOn 14 = .ok (.invokevirtual 71, 3) := by decide +kernel
theorem dX6_servedOn_17 : decode cX6_servedOn 17 = .ok (.if_icmp .lt 5, 3) := by decide +kernel
theorem dX6_servedOn_20 : decode cX6_servedOn 20 = .ok (.iconst 3, 1) := by decide +kernel
theorem dX6_servedOn_21 : decode cX6_servedOn 21 = .ok (.ireturn, 1) := by decide +kernel
theorem dX6_servedOn_22 : decode cX6_servedOn 22 = .ok (.aload_n 0, 1) := by decide +kernel
theorem dX6_servedOn_23 : decode cX6_servedOn 23 = .ok (.getfield 7, 3) := by decide +kernel
theorem dX6_servedOn_26 : decode cX6_servedOn 26 = .ok (.bipush 28, 2) := by decide +kernel
theorem dX6_servedOn_28 : decode cX6_servedOn 28 = .ok (.iload_n 2, 1) := by decide +kernel
theorem dX6_servedOn_29 : decode cX6_servedOn 29 = .ok (.iadd, 1) := by decide +kernel
theorem dX6_servedOn_30 : decode cX6_servedOn 30 = .ok (.iaload, 1) := by decide +kernel
theorem dX6_servedOn_31 : decode cX6_servedOn 31 = .ok (.iload_n 1, 1) := by decide +kernel
theorem dX6_servedOn_32 : decode cX6_servedOn 32 = .ok (.invokestatic 44, 3) := by decide +kernel
theorem dX6_servedOn_35 : decode cX6_servedOn 35 = .ok (.ifCond .eq 7, 3) := by decide +kernel
theorem dX6_servedOn_38 : decode cX6_servedOn 38 = .ok (.iconst 0, 1) := by decide +kernel
theorem dX6_servedOn_39 : decode cX6_servedOn 39 = .ok (.goto 18, 3) := by decide +kernel
theorem dX6_servedOn_42 : decode cX6_servedOn 42 = .ok (.aload_n 0, 1) := by decide +kernel
theorem dX6_servedOn_43 : decode cX6_servedOn 43 = .ok (.iload_n 2, 1) := by decide +kernel
theorem dX6_servedOn_44 : decode cX6_servedOn 44 = .ok (.iload_n 1, 1) := by decide +kernel
theorem dX6_servedOn_45 : decode cX6_servedOn 45 = .ok (.iload_n 3, 1) := by decide +kernel
theorem dX6_servedOn_46 : decode cX6_servedOn 46 = .ok (.invokevirtual 111, 3) := by decide +kernel
theorem dX6_servedOn_49 : decode cX6_servedOn 49 = .ok (.ifCond .le 7, 3) := by decide +kernel
theorem dX6_servedOn_52 : decode cX6_servedOn 52 = .ok (.iconst 1, 1) := by decide +kernel
theorem dX6_servedOn_53 : decode cX6_servedOn 53 = .ok (.goto 4, 3) := by decide +kernel
theorem dX6_servedOn_56 : decode cX6_servedOn 56 = .ok (.iconst 4, 1) := by decide +kernel
theorem dX6_servedOn_57 : decode cX6_servedOn 57 = .ok (.ireturn, 1) := by decide +kernel
set_option maxRecDepth 20000 in
theorem ggX6_served_X6_isUser : GoodIn wsX6_served wsX6_isUser := goodIn_r _ [6, 7, 8, 9, 5, 10, 49, 50, 51, 52, 53, 54, 55, 56, 57, 58, 59, 60, 61, 62] (by decide +kernel) (by decide +kernel)
set_option maxRecDepth 20000 in
theorem gX6_served_X6_isUser : GoodIn wsX6_served (wsV RX6 48 RX6 yX6_isUser wsX6_isUser) := goodIn_app (goodIn_of _ (by decide +kernel)) ggX6_served_X6_isUser
set_option maxRecDepth 20000 in
theorem ggX6_served_X6_isFeature : GoodIn wsX6_served wsX6_isFeature := goodIn_r _ [14, 7, 8, 9, 5, 10, 49, 50, 51, 52, 53, 54, 55, 56, 57, 58, 59, 60, 61, 62] (by decide +kernel) (by decide +kernel)
set_option maxRecDepth 20000 in
theorem gX6_served_X6_isFeature : GoodIn wsX6_served (wsV RX6 37 RX6 yX6_isFeature wsX6_isFeature) := goodIn_app (goodIn_of _ (by decide +kernel)) ggX6_served_X6_isFeature
set_option maxRecDepth 20000 in
theorem ggX6_served_X6_isDay : GoodIn wsX6_served wsX6_isDay := goodIn_r _ [17, 8, 9, 5, 10] (by decide +kernel) (by decide +kernel)
set_option maxRecDepth 20000 in
theorem gX6_served_X6_isDay : GoodIn wsX6_served (va_wsS RX6 51 yX6_isDay wsX6_isDay) := goodIn_app (goodIn_of _ (by decide +kernel)) ggX6_served_X6_isDay
set_option maxRecDepth 20000 in
theorem ggX6_served_X6_ofUser : GoodIn wsX6_served wsX6_ofUser := goodIn_r _ [21, 7, 49, 50, 51, 52, 53, 54, 55, 56, 57, 58, 59, 60, 61, 62] (by decide +kernel) (by decide +kernel)
set_option maxRecDepth 20000 in
theorem gX6_served_X6_ofUser : GoodIn wsX6_served (wsV RX6 61 RX6 yX6_ofUser wsX6_ofUser) := goodIn_app (goodIn_of _ (by decide +kernel)) ggX6_served_X6_ofUser
set_option maxRecDepth 20000 in
theorem ggX6_served_X6_has : GoodIn wsX6_served wsX6_has := goodIn_r _ [24] (by decide +kernel) (by decide +kernel)
set_option maxRecDepth 20000 in
theorem gX6_served_X6_has : GoodIn wsX6_served (va_wsS RX6 44 yX6_has wsX6_has) := goodIn_app (goodIn_of _ (by decide +kernel)) ggX6_served_X6_has
set_option maxRecDepth 20000 in
theorem ggX6_served_X6_on : GoodIn wsX6_served wsX6_on := goodIn_r _ [28, 18, 19, 20, 5, 21, 7, 49, 50, 51, 52, 53, 54, 55, 56, 57, 58, 59, 60, 61, 62] (by decide +kernel) (by decide +kernel)
set_option maxRecDepth 20000 in
theorem gX6_served_X6_on : GoodIn wsX6_served (wsV RX6 105 RX6 yX6_on wsX6_on) := goodIn_app (goodIn_of _ (by decide +kernel)) ggX6_served_X6_on
set_option maxRecDepth 20000 in
theorem ggX6_served_X6_servedOn : GoodIn wsX6_served wsX6_servedOn := goodIn_r _ [32, 7, 33, 34, 35, 5, 36, 37, 38, 39, 40, 22, 23, 24, 41, 42, 43, 44, 45, 46, 47, 48, 8, 9, 10, 49, 50, 51, 52, 53, 54, 55, 56, 57, 58, 59, 60, 61, 62] (by decide +kernel) (by decide +kernel)
set_option maxRecDepth 20000 in
theorem gX6_served_X6_servedOn : GoodIn wsX6_served (wsV RX6 114 RX6 yX6_servedOn wsX6_servedOn) := goodIn_app (goodIn_of _ (by decide +kernel)) ggX6_served_X6_servedOn
theorem dX6_served_0 : decode cX6_served 0 = .ok (.aload_n 0, 1) := by decide +kernel
theorem dX6_served_1 : decode cX6_served 1 = .ok (.aload_n 0, 1) := by decide +kernel
theorem dX6_served_2 : decode cX6_served 2 = .ok (.iload_n 1, 1) := by decide +kernel
theorem dX6_served_3 : decode cX6_served 3 = .ok (.invokevirtual 48, 3) := by decide +kernel
theorem dX6_served_6 : decode cX6_served 6 = .ok (.ifCond .eq 11, 3) := by decide +kernel
theorem dX6_served_9 : decode cX6_served 9 = .ok (.aload_n 0, 1) := by decide +kernel
theorem dX6_served_10 : decode cX6_served 10 = .ok (.iload_n 2, 1) := by decide +kernel
theorem dX6_served_11 : decode cX6_served 11 = .ok (.invokevirtual 37, 3) := by decide +kernel
theorem dX6_served_14 : decode cX6_served 14 = .ok (.ifCond .ne 7, 3) := by decide +kernel
theorem dX6_served_17 : decode cX6_served 17 = .ok (.iconst 1, 1) := by decide +kernel
theorem dX6_served_18 : decode cX6_served 18 = .ok (.goto 15, 3) := by decide +kernel
theorem dX6_served_21 : decode cX6_served 21 = .ok (.iload_n 3, 1) := by decide +kernel
theorem dX6_served_22 : decode cX6_served 22 = .ok (.invokestatic 51, 3) := by decide +kernel
theorem dX6_served_25 : decode cX6_served 25 = .ok (.ifCond .ne 7, 3) := by decide +kernel
theorem dX6_served_28 : decode cX6_served 28 = .ok (.iconst 2, 1) := by decide +kernel
theorem dX6_served_29 : decode cX6_served 29 = .ok (.goto 4, 3) := by decide +kernel
theorem dX6_served_32 : decode cX6_served 32 = .ok (.iconst 0, 1) := by decide +kernel
theorem dX6_served_33 : decode cX6_served 33 = .ok (.putfield 19, 3) := by decide +kernel
theorem dX6_served_36 : decode cX6_served 36 = .ok (.aload_n 0, 1) := by decide +kernel
theorem dX6_served_37 : decode cX6_served 37 = .ok (.getfield 19, 3) := by decide +kernel
theorem dX6_served_40 : decode cX6_served 40 = .ok (.ifCond .le 5, 3) := by decide +kernel
theorem dX6_served_43 : decode cX6_served 43 = .ok (.iconst 0, 1) := by decide +kernel
theorem dX6_served_44 : decode cX6_served 44 = .ok (.ireturn, 1) := by decide +kernel
theorem dX6_served_45 : decode cX6_served 45 = .ok (.aload_n 0, 1) := by decide +kernel
theorem dX6_served_46 : decode cX6_served 46 = .ok (.iload_n 1, 1) := by decide +kernel
theorem dX6_served_47 : decode cX6_served 47 = .ok (.iconst 1, 1) := by decide +kernel
theorem dX6_served_48 : decode cX6_served 48 = .ok (.invokevirtual 61, 3) := by decide +kernel
theorem dX6_served_51 : decode cX6_served 51 = .ok (.iload_n 2, 1) := by decide +kernel
theorem dX6_served_52 : decode cX6_served 52 = .ok (.invokestatic 44, 3) := by decide +kernel
theorem dX6_served_55 : decode cX6_served 55 = .ok (.ifCond .eq 18, 3) := by decide +kernel
theorem dX6_served_58 : decode cX6_served 58 = .ok (.aload_n 0, 1) := by decide +kernel
theorem dX6_served_59 : decode cX6_served 59 = .ok (.aload_n 0, 1) := by decide +kernel
theorem dX6_served_60 : decode cX6_served 60 = .ok (.iload_n 1, 1) := by decide +kernel
theorem dX6_served_61 : decode cX6_served 61 = .ok (.iload_n 3, 1) := by decide +kernel
theorem dX6_served_62 : decode cX6_served 62 = .ok (.invokevirtual 105, 3) := by decide +kernel
theorem dX6_served_65 : decode cX6_served 65 = .ok (.iload_n 2, 1) := by decide +kernel
theorem dX6_served_66 : decode cX6_served 66 = .ok (.iload_n 3, 1) := by decide +kernel
theorem dX6_served_67 : decode cX6_served 67 = .ok (.invokevirtual 114, 3) := by decide +kernel
theorem dX6_served_70 : decode cX6_served 70 = .ok (.goto 4, 3) := by decide +kernel
theorem dX6_served_73 : decode cX6_served 73 = .ok (.iconst 5, 1) := by decide +kernel
theorem dX6_served_74 : decode cX6_served 74 = .ok (.ireturn, 1) := by decide +kernel
set_option maxRecDepth 20000 in
theorem ggX6_missingOn_X6_ofUser : GoodIn wsX6_missingOn wsX6_ofUser := goodIn_r _ [6, 1, 33, 34, 35, 36, 37, 38, 39, 40, 41, 42, 43, 44, 45, 46] (by decide +kernel) (by decide +kernel)
set_option maxRecDepth 20000 in
theorem gX6_missingOn_X6_ofUser : GoodIn wsX6_missingOn (wsV RX6 61 RX6 yX6_ofUser wsX6_ofUser) := goodIn_app (goodIn_of _ (by decide +kernel)) ggX6_missingOn_X6_ofUser
set_option maxRecDepth 20000 in
theorem ggX6_missingOn_X6_has : GoodIn wsX6_missingOn wsX6_has := goodIn_r _ [9] (by decide +kernel) (by decide +kernel)
set_option maxRecDepth 20000 in
theorem gX6_missingOn_X6_has : GoodIn wsX6_missingOn (va_wsS RX6 44 yX6_has wsX6_has) := goodIn_app (goodIn_of _ (by decide +kernel)) ggX6_missingOn_X6_has
set_option maxRecDepth 20000 in
theorem ggX6_missingOn_X6_servedOn : GoodIn wsX6_missingOn wsX6_servedOn := goodIn_r _ [13, 1, 14, 15, 16, 5, 17, 18, 19, 20, 21, 7, 8, 9, 22, 23, 24, 25, 26, 27, 28, 29, 30, 31, 32, 33, 34, 35, 36, 37, 38, 39, 40, 41, 42, 43, 44, 45, 46] (by decide +kernel) (by decide +kernel)
set_option maxRecDepth 20000 in
theorem gX6_missingOn_X6_servedOn : GoodIn wsX6_missingOn (wsV RX6 114 RX6 yX6_servedOn wsX6_servedOn) := goodIn_app (goodIn_of _ (by decide +kernel)) ggX6_missingOn_X6_servedOn
theorem dX6_missingOn_0 : decode cX6_missingOn 0 = .ok (.iconst 0, 1) := by decide +kernel
theorem dX6_missingOn_1 : decode cX6_missingOn 1 = .ok (.istore 4, 2) := by decide +kernel
theorem dX6_missingOn_3 : decode cX6_missingOn 3 = .ok (.iconst 0, 1) := by decide +kernel
theorem dX6_missingOn_4 : decode cX6_missingOn 4 = .ok (.istore 5, 2) := by decide +kernel
theorem dX6_missingOn_6 : decode cX6_missingOn 6 = .ok (.iload 5, 2) := by decide +kernel
theorem dX6_missingOn_8 : decode cX6_missingOn 8 = .ok (.aload_n 0, 1) := by decide +kernel
theorem dX6_missingOn_9 : decode cX6_missingOn 9 = .ok (.getfield 7, 3) := by decide +kernel
theorem dX6_missingOn_12 : decode cX6_missingOn 12 = .ok (.iconst 1, 1) := by decide +kernel
theorem dX6_missingOn_13 : decode cX6_missingOn 13 = .ok (.iaload, 1) := by decide +kernel
theorem dX6_missingOn_14 : decode cX6_missingOn 14 = .ok (.if_icmp .ge 48, 3) := by decide +kernel
theorem dX6_missingOn_17 : decode cX6_missingOn 17 = .ok (.iload 4, 2) := by decide +kernel
theorem dX6_missingOn_19 : decode cX6_missingOn 19 = .ok (.aload_n 0, 1) := by decide +kernel
theorem dX6_missingOn_20 : decode cX6_missingOn 20 = .ok (.iload_n 1, 1) := by decide +kernel
theorem dX6_missingOn_21 : decode cX6_missingOn 21 = .ok (.iconst 1, 1) := by decide +kernel
theorem dX6_missingOn_22 : decode cX6_missingOn 22 = .ok (.invokevirtual 61, 3) := by decide +kernel
theorem dX6_missingOn_25 : decode cX6_missingOn 25 = .ok (.iload 5, 2) := by decide +kernel
theorem dX6_missingOn_27 : decode cX6_missingOn 27 = .ok (.invokestatic 44, 3) := by decide +kernel
theorem dX6_missingOn_30 : decode cX6_missingOn 30 = .ok (.ifCond .eq 22, 3) := by decide +kernel
theorem dX6_missingOn_33 : decode cX6_missingOn 33 = .ok (.aload_n 0, 1) := by decide +kernel
theorem dX6_missingOn_34 : decode cX6_missingOn 34 = .ok (.iload_n 2, 1) := by decide +kernel
theorem dX6_missingOn_35 : decode cX6_missingOn 35 = .ok (.iload 5, 2) := by decide +kernel
theorem dX6_missingOn_37 : decode cX6_missingOn 37 = .ok (.iload_n 3, 1) := by decide +kernel
theorem dX6_missingOn_38 : decode cX6_missingOn 38 = .ok (.invokevirtual 114, 3) := by decide +kernel
theorem dX6_missingOn_41 : decode cX6_missingOn 41 = .ok (.iconst 1, 1) := by decide +kernel
theorem dX6_missingOn_42 : decode cX6_missingOn 42 = .ok (.if_icmp .le 10, 3) := by decide +kernel
theorem dX6_missingOn_45 : decode cX6_missingOn 45 = .ok (.iconst 1, 1) := by decide +kernel
theorem dX6_missingOn_46 : decode cX6_missingOn 46 = .ok (.iload 5, 2) := by decide +kernel
theorem dX6_missingOn_48 : decode cX6_missingOn 48 = .ok (.ishl, 1) := by decide +kernel
theorem dX6_missingOn_49 : decode cX6_missingOn 49 = .ok (.goto 4, 3) := by decide +kernel
theorem dX6_missingOn_52 : decode cX6_missingOn 52 = .ok (.iconst 0, 1) := by decide +kernel
theorem dX6_missingOn_53 : decode cX6_missingOn 53 = .ok (.ior, 1) := by decide +kernel
theorem dX6_missingOn_54 : decode cX6_missingOn 54 = .ok (.istore 4, 2) := by decide +kernel
theorem dX6_missingOn_56 : decode cX6_missingOn 56 = .ok (.iinc 5 1, 3) := by decide +kernel
theorem dX6_missingOn_59 : decode cX6_missingOn 59 = .ok (.goto (-53), 3) := by decide +kernel
theorem dX6_missingOn_62 : decode cX6_missingOn 62 = .ok (.iload 4, 2) := by decide +kernel
theorem dX6_missingOn_64 : decode cX6_missingOn 64 = .ok (.ireturn, 1) := by decide +kernel
set_option maxRecDepth 20000 in
theorem ggX6_isStranded_X6_on : GoodIn wsX6_isStranded wsX6_on := goodIn_r _ [5, 6, 7, 8, 4, 9, 10, 41, 42, 43, 44, 45, 46, 47, 48, 49, 50, 51, 52, 53, 54] (by decide +kernel) (by decide +kernel)
set_option maxRecDepth 20000 in
theorem gX6_isStranded_X6_on : GoodIn wsX6_isStranded (wsV RX6 105 RX6 yX6_on wsX6_on) := goodIn_app (goodIn_of _ (by decide +kernel)) ggX6_isStranded_X6_on
set_option maxRecDepth 20000 in
theorem ggX6_isStranded_X6_missingOn : GoodIn wsX6_isStranded wsX6_missingOn := goodIn_r _ [14, 10, 6, 7, 8, 4, 9, 15, 16, 17, 18, 19, 20, 21, 22, 23, 24, 25, 26, 27, 28, 29, 30, 31, 32, 33, 34, 35, 36, 37, 38, 39, 40, 41, 42, 43, 44, 45, 46, 47, 48, 49, 50, 51, 52, 53, 54] (by decide +kernel) (by decide +kernel)
set_option maxRecDepth 20000 in
theorem gX6_isStranded_X6_missingOn : GoodIn wsX6_isStranded (wsV RX6 117 RX6 yX6_missingOn wsX6_missingOn) := goodIn_app (goodIn_of _ (by decide +kernel)) ggX6_isStranded_X6_missingOn
theorem dX6_isStranded_0 : decode cX6_isStranded 0 = .ok (.aload_n 0, 1) := by decide +kernel
theorem dX6_isStranded_1 : decode cX6_isStranded 1 = .ok (.iload_n 1, 1) := by decide +kernel
theorem dX6_isStranded_2 : decode cX6_isStranded 2 = .ok (.aload_n 0, 1) := by decide +kernel
theorem dX6_isStranded_3 : decode cX6_isStranded 3 = .ok (.iload_n 1, 1) := by decide +kernel
theorem dX6_isStranded_4 : decode cX6_isStranded 4 = .ok (.iload_n 2, 1) := by decide +kernel
theorem dX6_isStranded_5 : decode cX6_isStranded 5 = .ok (.invokevirtual 105, 3) := by decide +kernel
theorem dX6_isStranded_8 : decode cX6_isStranded 8 = .ok (.iload_n 2, 1) := by decide +kernel
theorem dX6_isStranded_9 : decode cX6_isStranded 9 = .ok (.invokevirtual 117, 3) := by decide +kernel
theorem dX6_isStranded_12 : decode cX6_isStranded 12 = .ok (.ifCond .eq 7, 3) := by decide +kernel
theorem dX6_isStranded_15 : decode cX6_isStranded 15 = .ok (.iconst 1, 1) := by decide +kernel
theorem dX6_isStranded_16 : decode cX6_isStranded 16 = .ok (.goto 4, 3) := by decide +kernel
theorem dX6_isStranded_19 : decode cX6_isStranded 19 = .ok (.iconst 0, 1) := by decide +kernel
theorem dX6_isStranded_20 : decode cX6_isStranded 20 = .ok (.ireturn, 1) := by decide +kernel
set_option maxRecDepth 20000 in
theorem ggX6_missing_X6_isUser : GoodIn wsX6_missing wsX6_isUser := goodIn_r _ [6, 7, 8, 9, 5, 10, 49, 50, 51, 52, 53, 54, 55, 56, 57, 58, 59, 60, 61, 62] (by decide +kernel) (by decide +kernel)
set_option maxRecDepth 20000 in
theorem gX6_missing_X6_isUser : GoodIn wsX6_missing (wsV RX6 48 RX6 yX6_isUser wsX6_isUser) := goodIn_app (goodIn_of _ (by decide +kernel)) ggX6_missing_X6_isUser
set_option maxRecDepth 20000 in
theorem ggX6_missing_X6_isDay : GoodIn wsX6_missing wsX6_isDay := goodIn_r _ [13, 8, 9, 5, 10] (by decide +kernel) (by decide +kernel)
set_option maxRecDepth 20000 in
theorem gX6_missing_X6_isDay : GoodIn wsX6_missing (va_wsS RX6 51 yX6_isDay wsX6_isDay) := goodIn_app (goodIn_of _ (by decide +kernel)) ggX6_missing_X6_isDay
set_option maxRecDepth 20000 in
theorem ggX6_missing_X6_on : GoodIn wsX6_missing wsX6_on := goodIn_r _ [17, 18, 19, 20, 5, 21, 7, 49, 50, 51, 52, 53, 54, 55, 56, 57, 58, 59, 60, 61, 62] (by decide +kernel) (by decide +kernel)
set_option maxRecDepth 20000 in
theorem gX6_missing_X6_on : GoodIn wsX6_missing (wsV RX6 105 RX6 yX6_on wsX6_on) := goodIn_app (goodIn_of _ (by decide +kernel)) ggX6_missing_X6_on
set_option maxRecDepth 20000 in
theorem ggX6_missing_X6_missingOn : GoodIn wsX6_missing wsX6_missingOn := goodIn_r _ [25, 7, 18, 19, 20, 5, 21, 26, 27, 28, 29, 30, 31, 32, 33, 34, 35, 36, 37, 38, 39, 40, 41, 42, 43, 44, 45, 46, 47, 48, 8, 9, 10, 49, 50, 51, 52, 53, 54, 55, 56, 57, 58, 59, 60, 61, 62] (by decide +kernel) (by decide +kernel)
set_option maxRecDepth 20000 in
theorem gX6_missing_X6_missingOn : GoodIn wsX6_missing (wsV RX6 117 RX6 yX6_missingOn wsX6_missingOn) := goodIn_app (goodIn_of _ (by decide +kernel)) ggX6_missing_X6_missingOn
theorem dX6_missing_0 : decode cX6_missing 0 = .ok (.aload_n 0, 1) := by decide +kernel
theorem dX6_missing_1 : decode cX6_missing 1 = .ok (.aload_n 0, 1) := by decide +kernel
theorem dX6_missing_2 : decode cX6_missing 2 = .ok (.iload_n 1, 1) := by decide +kernel
theorem dX6_missing_3 : decode cX6_missing 3 = .ok (.invokevirtual 48, 3) := by decide +kernel
theorem dX6_missing_6 : decode cX6_missing 6 = .ok (.ifCond .ne 7, 3) := by decide +kernel
theorem dX6_missing_9 : decode cX6_missing 9 = .ok (.iconst 1, 1) := by decide +kernel
theorem dX6_missing_10 : decode cX6_missing 10 = .ok (.goto 15, 3) := by decide +kernel
theorem dX6_missing_13 : decode cX6_missing 13 = .ok (.iload_n 2, 1) := by decide +kernel
theorem dX6_missing_14 : decode cX6_missing 14 = .ok (.invokestatic 51, 3) := by decide +kernel
theorem dX6_missing_17 : decode cX6_missing 17 = .ok (.ifCond .ne 7, 3) := by decide +kernel
theorem dX6_missing_20 : decode cX6_missing 20 = .ok (.iconst 2, 1) := by decide +kernel
theorem dX6_missing_21 : decode cX6_missing 21 = .ok (.goto 4, 3) := by decide +kernel
theorem dX6_missing_24 : decode cX6_missing 24 = .ok (.iconst 0, 1) := by decide +kernel
theorem dX6_missing_25 : decode cX6_missing 25 = .ok (.putfield 19, 3) := by decide +kernel
theorem dX6_missing_28 : decode cX6_missing 28 = .ok (.aload_n 0, 1) := by decide +kernel
theorem dX6_missing_29 : decode cX6_missing 29 = .ok (.getfield 19, 3) := by decide +kernel
theorem dX6_missing_32 : decode cX6_missing 32 = .ok (.ifCond .le 7, 3) := by decide +kernel
theorem dX6_missing_35 : decode cX6_missing 35 = .ok (.iconst 0, 1) := by decide +kernel
theorem dX6_missing_36 : decode cX6_missing 36 = .ok (.goto 15, 3) := by decide +kernel
theorem dX6_missing_39 : decode cX6_missing 39 = .ok (.aload_n 0, 1) := by decide +kernel
theorem dX6_missing_40 : decode cX6_missing 40 = .ok (.iload_n 1, 1) := by decide +kernel
theorem dX6_missing_41 : decode cX6_missing 41 = .ok (.aload_n 0, 1) := by decide +kernel
theorem dX6_missing_42 : decode cX6_missing 42 = .ok (.iload_n 1, 1) := by decide +kernel
theorem dX6_missing_43 : decode cX6_missing 43 = .ok (.iload_n 2, 1) := by decide +kernel
theorem dX6_missing_44 : decode cX6_missing 44 = .ok (.invokevirtual 105, 3) := by decide +kernel
theorem dX6_missing_47 : decode cX6_missing 47 = .ok (.iload_n 2, 1) := by decide +kernel
theorem dX6_missing_48 : decode cX6_missing 48 = .ok (.invokevirtual 117, 3) := by decide +kernel
theorem dX6_missing_51 : decode cX6_missing 51 = .ok (.ireturn, 1) := by decide +kernel
set_option maxRecDepth 20000 in
theorem ggX6_strandedOn_X6_isStranded : GoodIn wsX6_strandedOn wsX6_isStranded := goodIn_r _ [6, 7, 8, 9, 5, 10, 11, 12, 13, 14, 1, 15, 16, 17, 18, 19, 20, 21, 22, 23, 24, 25, 26, 27, 28, 29, 30, 31, 32, 33, 34, 35, 36, 37, 38, 39, 40, 41, 42, 43, 44, 45, 46, 47, 48, 49, 50, 51, 52, 53, 54, 55, 56, 57, 58] (by decide +kernel) (by decide +kernel)
set_option maxRecDepth 20000 in
theorem gX6_strandedOn_X6_isStranded : GoodIn wsX6_strandedOn (wsV RX6 120 RX6 yX6_isStranded wsX6_isStranded) := goodIn_app (goodIn_of _ (by decide +kernel)) ggX6_strandedOn_X6_isStranded
theorem dX6_strandedOn_0 : decode cX6_strandedOn 0 = .ok (.iconst 0, 1) := by decide +kernel
theorem dX6_strandedOn_1 : decode cX6_strandedOn 1 = .ok (.istore_n 2, 1) := by decide +kernel
theorem dX6_strandedOn_2 : decode cX6_strandedOn 2 = .ok (.iconst 0, 1) := by decide +kernel
theorem dX6_strandedOn_3 : decode cX6_strandedOn 3 = .ok (.istore_n 3, 1) := by decide +kernel
theorem dX6_strandedOn_4 : decode cX6_strandedOn 4 = .ok (.iload_n 3, 1) := by decide +kernel
theorem dX6_strandedOn_5 : decode cX6_strandedOn 5 = .ok (.aload_n 0, 1) := by decide +kernel
theorem dX6_strandedOn_6 : decode cX6_strandedOn 6 = .ok (.getfield 7, 3) := by decide +kernel
theorem dX6_strandedOn_9 : decode cX6_strandedOn 9 = .ok (.iconst 2, 1) := by decide +kernel
theorem dX6_strandedOn_10 : decode cX6_strandedOn 10 = .ok (.iaload, 1) := by decide +kernel
theorem dX6_strandedOn_11 : decode cX6_strandedOn 11 = .ok (.if_icmp .ge 28, 3) := by decide +kernel
theorem dX6_strandedOn_14 : decode cX6_strandedOn 14 = .ok (.iload_n 2, 1) := by decide +kernel
theorem dX6_strandedOn_15 : decode cX6_strandedOn 15 = .ok (.aload_n 0, 1) := by decide +kernel
theorem dX6_strandedOn_16 : decode cX6_strandedOn 16 = .ok (.iload_n 3, 1) := by decide +kernel
theorem dX6_strandedOn_17 : decode cX6_strandedOn 17 = .ok (.iload_n 1, 1) := by decide +kernel
theorem dX6_strandedOn_18 : decode cX6_strandedOn 18 = .ok (.invokevirtual 120, 3) := by decide +kernel
theorem dX6_strandedOn_21 : decode cX6_strandedOn 21 = .ok (.ifCond .eq 9, 3) := by decide +kernel
theorem dX6_strandedOn_24 : decode cX6_strandedOn 24 = .ok (.iconst 1, 1) := by decide +kernel
theorem dX6_strandedOn_25 : decode cX6_strandedOn 25 = .ok (.iload_n 3, 1) := by decide +kernel
theorem dX6_strandedOn_26 : decode cX6_strandedOn 26 = .ok (.ishl, 1) := by decide +kernel
theorem dX6_strandedOn_27 : decode cX6_strandedOn 27 = .ok (.goto 4, 3) := by decide +kernel
theorem dX6_strandedOn_30 : decode cX6_strandedOn 30 = .ok (.iconst 0, 1) := by decide +kernel
theorem dX6_strandedOn_31 : decode cX6_strandedOn 31 = .ok (.ior, 1) := by decide +kernel
theorem dX6_strandedOn_32 : decode cX6_strandedOn 32 = .ok (.istore_n 2, 1) := by decide +kernel
theorem dX6_strandedOn_33 : decode cX6_strandedOn 33 = .ok (.iinc 3 1, 3) := by decide +kernel
theorem dX6_strandedOn_36 : decode cX6_strandedOn 36 = .ok (.goto (-32), 3) := by decide +kernel
theorem dX6_strandedOn_39 : decode cX6_strandedOn 39 = .ok (.iload_n 2, 1) := by decide +kernel
theorem dX6_strandedOn_40 : decode cX6_strandedOn 40 = .ok (.ireturn, 1) := by decide +kernel
set_option maxRecDepth 20000 in
theorem ggX6_stranded_X6_isDay : GoodIn wsX6_stranded wsX6_isDay := goodIn_r _ [5, 6, 7, 4, 8] (by decide +kernel) (by decide +kernel)
set_option maxRecDepth 20000 in
theorem gX6_stranded_X6_isDay : GoodIn wsX6_stranded (va_wsS RX6 51 yX6_isDay wsX6_isDay) := goodIn_app (goodIn_of _ (by decide +kernel)) ggX6_stranded_X6_isDay
set_option maxRecDepth 20000 in
theorem ggX6_stranded_X6_strandedOn : GoodIn wsX6_stranded wsX6_strandedOn := goodIn_r _ [12, 13, 14, 15, 16, 4, 17, 18, 19, 20, 21, 22, 23, 24, 25, 26, 27, 28, 29, 30, 31, 32, 33, 34, 35, 36, 37, 38, 39, 40, 41, 42, 43, 44, 45, 46, 47, 48, 49, 50, 51, 52, 6, 7, 8, 53, 54, 55, 56, 57, 58, 59, 60, 61, 62, 63, 64, 65, 66] (by decide +kernel) (by decide +kernel)
set_option maxRecDepth 20000 in
theorem gX6_stranded_X6_strandedOn : GoodIn wsX6_stranded (wsV RX6 123 RX6 yX6_strandedOn wsX6_strandedOn) := goodIn_app (goodIn_of _ (by decide +kernel)) ggX6_stranded_X6_strandedOn
theorem dX6_stranded_0 : decode cX6_stranded 0 = .ok (.aload_n 0, 1) := by decide +kernel
theorem dX6_stranded_1 : decode cX6_stranded 1 = .ok (.iload_n 1, 1) := by decide +kernel
theorem dX6_stranded_2 : decode cX6_stranded 2 = .ok (.invokestatic 51, 3) := by decide +kernel
theorem dX6_stranded_5 : decode cX6_stranded 5 = .ok (.ifCond .eq 7, 3) := by decide +kernel
theorem dX6_stranded_8 : decode cX6_stranded 8 = .ok (.iconst 0, 1) := by decide +kernel
theorem dX6_stranded_9 : decode cX6_stranded 9 = .ok (.goto 4, 3) := by decide +kernel
theorem dX6_stranded_12 : decode cX6_stranded 12 = .ok (.iconst 1, 1) := by decide +kernel
theorem dX6_stranded_13 : decode cX6_stranded 13 = .ok (.putfield 19, 3) := by decide +kernel
theorem dX6_stranded_16 : decode cX6_stranded 16 = .ok (.aload_n 0, 1) := by decide +kernel
theorem dX6_stranded_17 : decode cX6_stranded 17 = .ok (.getfield 19, 3) := by decide +kernel
theorem dX6_stranded_20 : decode cX6_stranded 20 = .ok (.ifCond .le 7, 3) := by decide +kernel
theorem dX6_stranded_23 : decode cX6_stranded 23 = .ok (.iconst 0, 1) := by decide +kernel
theorem dX6_stranded_24 : decode cX6_stranded 24 = .ok (.goto 8, 3) := by decide +kernel
theorem dX6_stranded_27 : decode cX6_stranded 27 = .ok (.aload_n 0, 1) := by decide +kernel
theorem dX6_stranded_28 : decode cX6_stranded 28 = .ok (.iload_n 1, 1) := by decide +kernel
theorem dX6_stranded_29 : decode cX6_stranded 29 = .ok (.invokevirtual 123, 3) := by decide +kernel
theorem dX6_stranded_32 : decode cX6_stranded 32 = .ok (.ireturn, 1) := by decide +kernel
set_option maxRecDepth 20000 in
theorem ggX6_costOn_X6_ofUser : GoodIn wsX6_costOn wsX6_ofUser := goodIn_r _ [6, 1, 33, 34, 35, 36, 37, 38, 39, 40, 41, 42, 43, 44, 45, 46] (by decide +kernel) (by decide +kernel)
set_option maxRecDepth 20000 in
theorem gX6_costOn_X6_ofUser : GoodIn wsX6_costOn (wsV RX6 61 RX6 yX6_ofUser wsX6_ofUser) := goodIn_app (goodIn_of _ (by decide +kernel)) ggX6_costOn_X6_ofUser
set_option maxRecDepth 20000 in
theorem ggX6_costOn_X6_has : GoodIn wsX6_costOn wsX6_has := goodIn_r _ [9] (by decide +kernel) (by decide +kernel)
set_option maxRecDepth 20000 in
theorem gX6_costOn_X6_has : GoodIn wsX6_costOn (va_wsS RX6 44 yX6_has wsX6_has) := goodIn_app (goodIn_of _ (by decide +kernel)) ggX6_costOn_X6_has
set_option maxRecDepth 20000 in
theorem ggX6_costOn_X6_servedOn : GoodIn wsX6_costOn wsX6_servedOn := goodIn_r _ [13, 1, 14, 15, 16, 5, 17, 18, 19, 20, 21, 7, 8, 9, 22, 23, 24, 25, 26, 27, 28, 29, 30, 31, 32, 33, 34, 35, 36, 37, 38, 39, 40, 41, 42, 43, 44, 45, 46] (by decide +kernel) (by decide +kernel)
set_option maxRecDepth 20000 in
theorem gX6_costOn_X6_servedOn : GoodIn wsX6_costOn (wsV RX6 114 RX6 yX6_servedOn wsX6_servedOn) := goodIn_app (goodIn_of _ (by decide +kernel)) ggX6_costOn_X6_servedOn
set_option maxRecDepth 20000 in
theorem ggX6_costOn_X6_cheapestShim : GoodIn wsX6_costOn wsX6_cheapestShim := goodIn_r _ [25, 1, 26, 27, 28, 5, 29, 30, 31, 32, 33, 34, 35, 36, 37, 38, 39, 40, 41, 42, 43, 44, 45, 46] (by decide +kernel) (by decide +kernel)
set_option maxRecDepth 20000 in
theorem gX6_costOn_X6_cheapestShim : GoodIn wsX6_costOn (wsV RX6 111 RX6 yX6_cheapestShim wsX6_cheapestShim) := goodIn_app (goodIn_of _ (by decide +kernel)) ggX6_costOn_X6_cheapestShim
theorem dX6_costOn_0 : decode cX6_costOn 0 = .ok (.iconst 0, 1) := by decide +kernel
theorem dX6_costOn_1 : decode cX6_costOn 1 = .ok (.istore 4, 2) := by decide +kernel
theorem dX6_costOn_3 : decode cX6_costOn 3 = .ok (.iconst 0, 1) := by decide +kernel
theorem dX6_costOn_4 : decode cX6_costOn 4 = .ok (.istore 5, 2) := by decide +kernel
theorem dX6_costOn_6 : decode cX6_costOn 6 = .ok (.iload 5, 2) := by decide +kernel
theorem dX6_costOn_8 : decode cX6_costOn 8 = .ok (.aload_n 0, 1) := by decide +kernel
theorem dX6_costOn_9 : decode cX6_costOn 9 = .ok (.getfield 7, 3) := by decide +kernel
theorem dX6_costOn_12 : decode cX6_costOn 12 = .ok (.iconst 1, 1) := by decide +kernel
theorem dX6_costOn_13 : decode cX6_costOn 13 = .ok (.iaload, 1) := by decide +kernel
theorem dX6_costOn_14 : decode cX6_costOn 14 = .ok (.if_icmp .ge 64, 3) := by decide +kernel
theorem dX6_costOn_17 : decode cX6_costOn 17 = .ok (.aload_n 0, 1) := by decide +kernel
theorem dX6_costOn_18 : decode cX6_costOn 18 = .ok (.iload_n 1, 1) := by decide +kernel
theorem dX6_costOn_19 : decode cX6_costOn 19 = .ok (.iconst 1, 1) := by decide +kernel
theorem dX6_costOn_20 : decode cX6_costOn 20 = .ok (.invokevirtual 61, 3) := by decide +kernel
theorem dX6_costOn_23 : decode cX6_costOn 23 = .ok (.iload 5, 2) := by decide +kernel
theorem dX6_costOn_25 : decode cX6_costOn 25 = .ok (.invokestatic 44, 3) := by decide +kernel
theorem dX6_costOn_28 : decode cX6_costOn 28 = .ok (.ifCond .eq 19, 3) := by decide +kernel
theorem dX6_costOn_31 : decode cX6_costOn 31 = .ok (.aload_n 0, 1) := by decide +kernel
theorem dX6_costOn_32 : decode cX6_costOn 32 = .ok (.iload_n 2, 1) := by decide +kernel
theorem dX6_costOn_33 : decode cX6_costOn 33 = .ok (.iload 5, 2) := by decide +kernel
theorem dX6_costOn_35 : decode cX6_costOn 35 = .ok (.iload_n 3, 1) := by decide +kernel
theorem dX6_costOn_36 : decode cX6_costOn 36 = .ok (.invokevirtual 114, 3) := by decide +kernel
theorem dX6_costOn_39 : decode cX6_costOn 39 = .ok (.iconst 1, 1) := by decide +kernel
theorem dX6_costOn_40 : decode cX6_costOn 40 = .ok (.if_icmp .ne 7, 3) := by decide +kernel
theorem dX6_costOn_43 : decode cX6_costOn 43 = .ok (.iconst 1, 1) := by decide +kernel
theorem dX6_costOn_44 : decode cX6_costOn 44 = .ok (.goto 4, 3) := by decide +kernel
theorem dX6_costOn_47 : decode cX6_costOn 47 = .ok (.iconst 0, 1) := by decide +kernel
theorem dX6_costOn_48 : decode cX6_costOn 48 = .ok (.istore 6, 2) := by decide +kernel
theorem dX6_costOn_50 : decode cX6_costOn 50 = .ok (.iload 4, 2) := by decide +kernel
theorem dX6_costOn_52 : decode cX6_costOn 52 = .ok (.iload 6, 2) := by decide +kernel
theorem dX6_costOn_54 : decode cX6_costOn 54 = .ok (.ifCond .eq 14, 3) := by decide +kernel
theorem dX6_costOn_57 : decode cX6_costOn 57 = .ok (.aload_n 0, 1) := by decide +kernel
theorem dX6_costOn_58 : decode cX6_costOn 58 = .ok (.iload 5, 2) := by decide +kernel
theorem dX6_costOn_60 : decode cX6_costOn 60 = .ok (.iload_n 2, 1) := by decide +kernel
theorem dX6_costOn_61 : decode cX6_costOn 61 = .ok (.iload_n 3, 1) := by decide +kernel
theorem dX6_costOn_62 : decode cX6_costOn 62 = .ok (.invokevirtual 111, 3) := by decide +kernel
theorem dX6_costOn_65 : decode cX6_costOn 65 = .ok (.goto 4, 3) := by decide +kernel
theorem dX6_costOn_68 : decode cX6_costOn 68 = .ok (.iconst 0, 1) := by decide +kernel
theorem dX6_costOn_69 : decode cX6_costOn 69 = .ok (.iadd, 1) := by decide +kernel
theorem dX6_costOn_70 : decode cX6_costOn 70 = .ok (.istore 4, 2) := by decide +kernel
theorem dX6_costOn_72 : decode cX6_costOn 72 = .ok (.iinc 5 1, 3) := by decide +kernel
theorem dX6_costOn_75 : decode cX6_costOn 75 = .ok (.goto (-69), 3) := by decide +kernel
theorem dX6_costOn_78 : decode cX6_costOn 78 = .ok (.iload 4, 2) := by decide +kernel
theorem dX6_costOn_80 : decode cX6_costOn 80 = .ok (.ireturn, 1) := by decide +kernel
set_option maxRecDepth 20000 in
theorem ggX6_costsOf_X6_on : GoodIn wsX6_costsOf wsX6_on := goodIn_r _ [6, 7, 8, 9, 5, 10, 1, 41, 42, 43, 44, 45, 46, 47, 48, 49, 50, 51, 52, 53, 54] (by decide +kernel) (by decide +kernel)
set_option maxRecDepth 20000 in
theorem gX6_costsOf_X6_on : GoodIn wsX6_costsOf (wsV RX6 105 RX6 yX6_on wsX6_on) := goodIn_app (goodIn_of _ (by decide +kernel)) ggX6_costsOf_X6_on
set_option maxRecDepth 20000 in
theorem ggX6_costsOf_X6_costOn : GoodIn wsX6_costsOf wsX6_costOn := goodIn_r _ [14, 1, 7, 8, 9, 5, 10, 15, 16, 17, 18, 19, 20, 21, 22, 23, 24, 25, 26, 27, 28, 29, 30, 31, 32, 33, 34, 35, 36, 37, 38, 39, 40, 41, 42, 43, 44, 45, 46, 47, 48, 49, 50, 51, 52, 53, 54] (by decide +kernel) (by decide +kernel)
set_option maxRecDepth 20000 in
theorem gX6_costsOf_X6_costOn : GoodIn wsX6_costsOf (wsV RX6 126 RX6 yX6_costOn wsX6_costOn) := goodIn_app (goodIn_of _ (by decide +kernel)) ggX6_costsOf_X6_costOn
theorem dX6_costsOf_0 : decode cX6_costsOf 0 = .ok (.iconst 0, 1) := by decide +kernel
theorem dX6_costsOf_1 : decode cX6_costsOf 1 = .ok (.istore_n 3, 1) := by decide +kernel
theorem dX6_costsOf_2 : decode cX6_costsOf 2 = .ok (.iload_n 1, 1) := by decide +kernel
theorem dX6_costsOf_3 : decode cX6_costsOf 3 = .ok (.istore 4, 2) := by decide +kernel
theorem dX6_costsOf_5 : decode cX6_costsOf 5 = .ok (.iload 4, 2) := by decide +kernel
theorem dX6_costsOf_7 : decode cX6_costsOf 7 = .ok (.iload_n 2, 1) := by decide +kernel
theorem dX6_costsOf_8 : decode cX6_costsOf 8 = .ok (.if_icmp .gt 48, 3) := by decide +kernel
theorem dX6_costsOf_11 : decode cX6_costsOf 11 = .ok (.iconst 0, 1) := by decide +kernel
theorem dX6_costsOf_12 : decode cX6_costsOf 12 = .ok (.istore 5, 2) := by decide +kernel
theorem dX6_costsOf_14 : decode cX6_costsOf 14 = .ok (.iload 5, 2) := by decide +kernel
theorem dX6_costsOf_16 : decode cX6_costsOf 16 = .ok (.aload_n 0, 1) := by decide +kernel
theorem dX6_costsOf_17 : decode cX6_costsOf 17 = .ok (.getfield 7, 3) := by decide +kernel
theorem dX6_costsOf_20 : decode cX6_costsOf 20 = .ok (.iconst 2, 1) := by decide +kernel
theorem dX6_costsOf_21 : decode cX6_costsOf 21 = .ok (.iaload, 1) := by decide +kernel
theorem dX6_costsOf_22 : decode cX6_costsOf 22 = .ok (.if_icmp .ge 28, 3) := by decide +kernel
theorem dX6_costsOf_25 : decode cX6_costsOf 25 = .ok (.iload_n 3, 1) := by decide +kernel
theorem dX6_costsOf_26 : decode cX6_costsOf 26 = .ok (.aload_n 0, 1) := by decide +kernel
theorem dX6_costsOf_27 : decode cX6_costsOf 27 = .ok (.iload 5, 2) := by decide +kernel
theorem dX6_costsOf_29 : decode cX6_costsOf 29 = .ok (.aload_n 0, 1) := by decide +kernel
theorem dX6_costsOf_30 : decode cX6_costsOf 30 = .ok (.iload 5, 2) := by decide +kernel
theorem dX6_costsOf_32 : decode cX6_costsOf 32 = .ok (.iload 4, 2) := by decide +kernel
theorem dX6_costsOf_34 : decode cX6_costsOf 34 = .ok (.invokevirtual 105, 3) := by decide +kernel
theorem dX6_costsOf_37 : decode cX6_costsOf 37 = .ok (.iload 4, 2) := by decide +kernel
theorem dX6_costsOf_39 : decode cX6_costsOf 39 = .ok (.invokevirtual 126, 3) := by decide +kernel
theorem dX6_costsOf_42 : decode cX6_costsOf 42 = .ok (.iadd, 1) := by decide +kernel
theorem dX6_costsOf_43 : decode cX6_costsOf 43 = .ok (.istore_n 3, 1) := by decide +kernel
theorem dX6_costsOf_44 : decode cX6_costsOf 44 = .ok (.iinc 5 1, 3) := by decide +kernel
theorem dX6_costsOf_47 : decode cX6_costsOf 47 = .ok (.goto (-33), 3) := by decide +kernel
theorem dX6_costsOf_50 : decode cX6_costsOf 50 = .ok (.iinc 4 1, 3) := by decide +kernel
theorem dX6_costsOf_53 : decode cX6_costsOf 53 = .ok (.goto (-48), 3) := by decide +kernel
theorem dX6_costsOf_56 : decode cX6_costsOf 56 = .ok (.iload_n 3, 1) := by decide +kernel
theorem dX6_costsOf_57 : decode cX6_costsOf 57 = .ok (.ireturn, 1) := by decide +kernel
set_option maxRecDepth 20000 in
theorem ggX6_areDays_X6_isDay : GoodIn wsX6_areDays wsX6_isDay := goodIn_r _ [4, 5, 6, 3, 7] (by decide +kernel) (by decide +kernel)
set_option maxRecDepth 20000 in
theorem gX6_areDays_X6_isDay : GoodIn wsX6_areDays (va_wsS RX6 51 yX6_isDay wsX6_isDay) := goodIn_app (goodIn_of _ (by decide +kernel)) ggX6_areDays_X6_isDay
set_option maxRecDepth 20000 in
theorem ggX6_areDays_X6_in : GoodIn wsX6_areDays wsX6_in := goodIn_r _ [7] (by decide +kernel) (by decide +kernel)
set_option maxRecDepth 20000 in
theorem gX6_areDays_X6_in : GoodIn wsX6_areDays (va_wsS RX6 23 yX6_in wsX6_in) := goodIn_app (goodIn_of _ (by decide +kernel)) ggX6_areDays_X6_in
theorem dX6_areDays_0 : decode cX6_areDays 0 = .ok (.iload_n 0, 1) := by decide +kernel
theorem dX6_areDays_1 : decode cX6_areDays 1 = .ok (.invokestatic 51, 3) := by decide +kernel
theorem dX6_areDays_4 : decode cX6_areDays 4 = .ok (.ifCond .eq 18, 3) := by decide +kernel
theorem dX6_areDays_7 : decode cX6_areDays 7 = .ok (.iload_n 1, 1) := by decide +kernel
theorem dX6_areDays_8 : decode cX6_areDays 8 = .ok (.iload_n 0, 1) := by decide +kernel
theorem dX6_areDays_9 : decode cX6_areDays 9 = .ok (.sipush 999, 3) := by decide +kernel
theorem dX6_areDays_12 : decode cX6_areDays 12 = .ok (.invokestatic 23, 3) := by decide +kernel
theorem dX6_areDays_15 : decode cX6_areDays 15 = .ok (.ifCond .eq 7, 3) := by decide +kernel
theorem dX6_areDays_18 : decode cX6_areDays 18 = .ok (.iconst 1, 1) := by decide +kernel
theorem dX6_areDays_19 : decode cX6_areDays 19 = .ok (.goto 4, 3) := by decide +kernel
theorem dX6_areDays_22 : decode cX6_areDays 22 = .ok (.iconst 0, 1) := by decide +kernel
theorem dX6_areDays_23 : decode cX6_areDays 23 = .ok (.ireturn, 1) := by decide +kernel
set_option maxRecDepth 20000 in
theorem ggX6_costs_X6_areDays : GoodIn wsX6_costs wsX6_areDays := goodIn_r _ [5, 6, 7, 4, 8, 9, 10, 11] (by decide +kernel) (by decide +kernel)
set_option maxRecDepth 20000 in
theorem gX6_costs_X6_areDays : GoodIn wsX6_costs (va_wsS RX6 129 yX6_areDays wsX6_areDays) := goodIn_app (goodIn_of _ (by decide +kernel)) ggX6_costs_X6_areDays
set_option maxRecDepth 20000 in
theorem ggX6_costs_X6_costsOf : GoodIn wsX6_costs wsX6_costsOf := goodIn_r _ [15, 16, 17, 18, 19, 4, 20, 21, 22, 23, 24, 25, 26, 27, 28, 29, 30, 31, 32, 33, 34, 35, 36, 37, 38, 39, 40, 41, 42, 43, 44, 45, 46, 47, 48, 49, 50, 51, 9, 10, 11, 52, 53, 54, 55, 56, 57, 58, 59, 60, 61, 62, 63, 64, 65] (by decide +kernel) (by decide +kernel)
set_option maxRecDepth 20000 in
theorem gX6_costs_X6_costsOf : GoodIn wsX6_costs (wsV RX6 132 RX6 yX6_costsOf wsX6_costsOf) := goodIn_app (goodIn_of _ (by decide +kernel)) ggX6_costs_X6_costsOf
theorem dX6_costs_0 : decode cX6_costs 0 = .ok (.aload_n 0, 1) := by decide +kernel
theorem dX6_costs_1 : decode cX6_costs 1 = .ok (.iload_n 1, 1) := by decide +kernel
theorem dX6_costs_2 : decode cX6_costs 2 = .ok (.iload_n 2, 1) := by decide +kernel
theorem dX6_costs_3 : decode cX6_costs 3 = .ok (.invokestatic 129, 3) := by decide +kernel
theorem dX6_costs_6 : decode cX6_costs 6 = .ok (.ifCond .eq 7, 3) := by decide +kernel
theorem dX6_costs_9 : decode cX6_costs 9 = .ok (.iconst 0, 1) := by decide +kernel
theorem dX6_costs_10 : decode cX6_costs 10 = .ok (.goto 4, 3) := by decide +kernel
theorem dX6_costs_13 : decode cX6_costs 13 = .ok (.iconst 1, 1) := by decide +kernel
theorem dX6_costs_14 : decode cX6_costs 14 = .ok (.putfield 19, 3) := by decide +kernel
theorem dX6_costs_17 : decode cX6_costs 17 = .ok (.aload_n 0, 1) := by decide +kernel
theorem dX6_costs_18 : decode cX6_costs 18 = .ok (.getfield 19, 3) := by decide +kernel
theorem dX6_costs_21 : decode cX6_costs 21 = .ok (.ifCond .le 7, 3) := by decide +kernel
theorem dX6_costs_24 : decode cX6_costs 24 = .ok (.iconst 0, 1) := by decide +kernel
theorem dX6_costs_25 : decode cX6_costs 25 = .ok (.goto 9, 3) := by decide +kernel
theorem dX6_costs_28 : decode cX6_costs 28 = .ok (.aload_n 0, 1) := by decide +kernel
theorem dX6_costs_29 : decode cX6_costs 29 = .ok (.iload_n 1, 1) := by decide +kernel
theorem dX6_costs_30 : decode cX6_costs 30 = .ok (.iload_n 2, 1) := by decide +kernel
theorem dX6_costs_31 : decode cX6_costs 31 = .ok (.invokevirtual 132, 3) := by decide +kernel
theorem dX6_costs_34 : decode cX6_costs 34 = .ok (.ireturn, 1) := by decide +kernel
theorem dX6_bits_0 : decode cX6_bits 0 = .ok (.iconst 0, 1) := by decide +kernel
theorem dX6_bits_1 : decode cX6_bits 1 = .ok (.istore_n 1, 1) := by decide +kernel
theorem dX6_bits_2 : decode cX6_bits 2 = .ok (.iconst 0, 1) := by decide +kernel
theorem dX6_bits_3 : decode cX6_bits 3 = .ok (.istore_n 2, 1) := by decide +kernel
theorem dX6_bits_4 : decode cX6_bits 4 = .ok (.iload_n 2, 1) := by decide +kernel
theorem dX6_bits_5 : decode cX6_bits 5 = .ok (.bipush 10, 2) := by decide +kernel
theorem dX6_bits_7 : decode cX6_bits 7 = .ok (.if_icmp .ge 17, 3) := by decide +kernel
theorem dX6_bits_10 : decode cX6_bits 10 = .ok (.iload_n 1, 1) := by decide +kernel
theorem dX6_bits_11 : decode cX6_bits 11 = .ok (.iload_n 0, 1) := by decide +kernel
theorem dX6_bits_12 : decode cX6_bits 12 = .ok (.iload_n 2, 1) := by decide +kernel
theorem dX6_bits_13 : decode cX6_bits 13 = .ok (.ishr, 1) := by decide +kernel
theorem dX6_bits_14 : decode cX6_bits 14 = .ok (.iconst 1, 1) := by decide +kernel
theorem dX6_bits_15 : decode cX6_bits 15 = .ok (.iand, 1) := by decide +kernel
theorem dX6_bits_16 : decode cX6_bits 16 = .ok (.iadd, 1) := by decide +kernel
theorem dX6_bits_17 : decode cX6_bits 17 = .ok (.istore_n 1, 1) := by decide +kernel
theorem dX6_bits_18 : decode cX6_bits 18 = .ok (.iinc 2 1, 3) := by decide +kernel
theorem dX6_bits_21 : decode cX6_bits 21 = .ok (.goto (-17), 3) := by decide +kernel
theorem dX6_bits_24 : decode cX6_bits 24 = .ok (.iload_n 1, 1) := by decide +kernel
theorem dX6_bits_25 : decode cX6_bits 25 = .ok (.ireturn, 1) := by decide +kernel
set_option maxRecDepth 20000 in
theorem ggX6_uses_X6_ofUser : GoodIn wsX6_uses wsX6_ofUser := goodIn_r _ [6, 1, 10, 11, 12, 13, 14, 15, 16, 17, 18, 19, 20, 21, 22, 23] (by decide +kernel) (by decide +kernel)
set_option maxRecDepth 20000 in
theorem gX6_uses_X6_ofUser : GoodIn wsX6_uses (wsV RX6 61 RX6 yX6_ofUser wsX6_ofUser) := goodIn_app (goodIn_of _ (by decide +kernel)) ggX6_uses_X6_ofUser
set_option maxRecDepth 20000 in
theorem ggX6_uses_X6_bits : GoodIn wsX6_uses wsX6_bits := goodIn_r _ [9] (by decide +kernel) (by decide +kernel)
set_option maxRecDepth 20000 in
theorem gX6_uses_X6_bits : GoodIn wsX6_uses (va_wsS RX6 135 yX6_bits wsX6_bits) := goodIn_app (goodIn_of _ (by decide +kernel)) ggX6_uses_X6_bits
theorem dX6_uses_0 : decode cX6_uses 0 = .ok (.iconst 0, 1) := by decide +kernel
theorem dX6_uses_1 : decode cX6_uses 1 = .ok (.istore_n 1, 1) := by decide +kernel
theorem dX6_uses_2 : decode cX6_uses 2 = .ok (.iconst 0, 1) := by decide +kernel
theorem dX6_uses_3 : decode cX6_uses 3 = .ok (.istore_n 2, 1) := by decide +kernel
theorem dX6_uses_4 : decode cX6_uses 4 = .ok (.iload_n 2, 1) := by decide +kernel
theorem dX6_uses_5 : decode cX6_uses 5 = .ok (.aload_n 0, 1) := by decide +kernel
theorem dX6_uses_6 : decode cX6_uses 6 = .ok (.getfield 7, 3) := by decide +kernel
theorem dX6_uses_9 : decode cX6_uses 9 = .ok (.iconst 2, 1) := by decide +kernel
theorem dX6_uses_10 : decode cX6_uses 10 = .ok (.iaload, 1) := by decide +kernel
theorem dX6_uses_11 : decode cX6_uses 11 = .ok (.if_icmp .ge 21, 3) := by decide +kernel
theorem dX6_uses_14 : decode cX6_uses 14 = .ok (.iload_n 1, 1) := by decide +kernel
theorem dX6_uses_15 : decode cX6_uses 15 = .ok (.aload_n 0, 1) := by decide +kernel
theorem dX6_uses_16 : decode cX6_uses 16 = .ok (.iload_n 2, 1) := by decide +kernel
theorem dX6_uses_17 : decode cX6_uses 17 = .ok (.iconst 1, 1) := by decide +kernel
theorem dX6_uses_18 : decode cX6_uses 18 = .ok (.invokevirtual 61, 3) := by decide +kernel
theorem dX6_uses_21 : decode cX6_uses 21 = .ok (.invokestatic 135, 3) := by decide +kernel
theorem dX6_uses_24 : decode cX6_uses 24 = .ok (.iadd, 1) := by decide +kernel
theorem dX6_uses_25 : decode cX6_uses 25 = .ok (.istore_n 1, 1) := by decide +kernel
theorem dX6_uses_26 : decode cX6_uses 26 = .ok (.iinc 2 1, 3) := by decide +kernel
theorem dX6_uses_29 : decode cX6_uses 29 = .ok (.goto (-25), 3) := by decide +kernel
theorem dX6_uses_32 : decode cX6_uses 32 = .ok (.iload_n 1, 1) := by decide +kernel
theorem dX6_uses_33 : decode cX6_uses 33 = .ok (.ireturn, 1) := by decide +kernel
set_option maxRecDepth 20000 in
theorem ggX6_valueOf_X6_ofUser : GoodIn wsX6_valueOf wsX6_ofUser := goodIn_r _ [6, 1, 56, 57, 58, 59, 60, 61, 62, 63, 64, 65, 66, 67, 68, 69] (by decide +kernel) (by decide +kernel)
set_option maxRecDepth 20000 in
theorem gX6_valueOf_X6_ofUser : GoodIn wsX6_valueOf (wsV RX6 61 RX6 yX6_ofUser wsX6_ofUser) := goodIn_app (goodIn_of _ (by decide +kernel)) ggX6_valueOf_X6_ofUser
set_option maxRecDepth 20000 in
theorem ggX6_valueOf_X6_strandedOn : GoodIn wsX6_valueOf wsX6_strandedOn := goodIn_r _ [10, 1, 11, 12, 13, 5, 14, 15, 16, 17, 18, 2, 3, 4, 6, 19, 20, 21, 22, 23, 24, 25, 26, 27, 28, 29, 30, 31, 32, 33, 34, 35, 36, 37, 38, 39, 40, 41, 42, 43, 44, 45, 46, 47, 48, 56, 57, 58, 59, 60, 61, 62, 63, 64, 65, 66, 67, 68, 69] (by decide +kernel) (by decide +kernel)
set_option maxRecDepth 20000 in
theorem gX6_valueOf_X6_strandedOn : GoodIn wsX6_valueOf (wsV RX6 123 RX6 yX6_strandedOn wsX6_strandedOn) := goodIn_app (goodIn_of _ (by decide +kernel)) ggX6_valueOf_X6_strandedOn
set_option maxRecDepth 20000 in
theorem ggX6_valueOf_X6_uses : GoodIn wsX6_valueOf wsX6_uses := goodIn_r _ [52, 1, 2, 3, 4, 5, 6, 53, 54, 55, 56, 57, 58, 59, 60, 61, 62, 63, 64, 65, 66, 67, 68, 69] (by decide +kernel) (by decide +kernel)
set_option maxRecDepth 20000 in
theorem gX6_valueOf_X6_uses : GoodIn wsX6_valueOf (wsV RX6 138 RX6 yX6_uses wsX6_uses) := goodIn_app (goodIn_of _ (by decide +kernel)) ggX6_valueOf_X6_uses
theorem dX6_valueOf_0 : decode cX6_valueOf 0 = .ok (.iload_n 1, 1) := by decide +kernel
theorem dX6_valueOf_1 : decode cX6_valueOf 1 = .ok (.iconst 4, 1) := by decide +kernel
theorem dX6_valueOf_2 : decode cX6_valueOf 2 = .ok (.if_icmp .ge 10, 3) := by decide +kernel
theorem dX6_valueOf_5 : decode cX6_valueOf 5 = .ok (.aload_n 0, 1) := by decide +kernel
theorem dX6_valueOf_6 : decode cX6_valueOf 6 = .ok (.getfield 7, 3) := by decide +kernel
theorem dX6_valueOf_9 : decode cX6_valueOf 9 = .ok (.iload_n 1, 1) := by decide +kernel
theorem dX6_valueOf_10 : decode cX6_valueOf 10 = .ok (.iaload, 1) := by decide +kernel
theorem dX6_valueOf_11 : decode cX6_valueOf 11 = .ok (.ireturn, 1) := by decide +kernel
theorem dX6_valueOf_12 : decode cX6_valueOf 12 = .ok (.iconst 0, 1) := by decide +kernel
theorem dX6_valueOf_13 : decode cX6_valueOf 13 = .ok (.istore_n 2, 1) := by decide +kernel
theorem dX6_valueOf_14 : decode cX6_valueOf 14 = .ok (.iconst 0, 1) := by decide +kernel
theorem dX6_valueOf_15 : decode cX6_valueOf 15 = .ok (.istore_n 3, 1) := by decide +kernel
theorem dX6_valueOf_16 : decode cX6_valueOf 16 = .ok (.iconst 0, 1) := by decide +kernel
theorem dX6_valueOf_17 : decode cX6_valueOf 17 = .ok (.istore 4, 2) := by decide +kernel
theorem dX6_valueOf_19 : decode cX6_valueOf 19 = .ok (.iload 4, 2) := by decide +kernel
theorem dX6_valueOf_21 : decode cX6_valueOf 21 = .ok (.aload_n 0, 1) := by decide +kernel
theorem dX6_valueOf_22 : decode cX6_valueOf 22 = .ok (.getfield 7, 3) := by decide +kernel
theorem dX6_valueOf_25 : decode cX6_valueOf 25 = .ok (.iconst 2, 1) := by decide +kernel
theorem dX6_valueOf_26 : decode cX6_valueOf 26 = .ok (.iaload, 1) := by decide +kernel
theorem dX6_valueOf_27 : decode cX6_valueOf 27 = .ok (.if_icmp .ge 38, 3) := by decide +kernel
theorem dX6_valueOf_30 : decode cX6_valueOf 30 = .ok (.iload_n 2, 1) := by decide +kernel
theorem dX6_valueOf_31 : decode cX6_valueOf 31 = .ok (.aload_n 0, 1) := by decide +kernel
theorem dX6_valueOf_32 : decode cX6_valueOf 32 = .ok (.iload 4, 2) := by decide +kernel
theorem dX6_valueOf_34 : decode cX6_valueOf 34 = .ok (.iconst 2, 1) := by decide +kernel
theorem dX6_valueOf_35 : decode cX6_valueOf 35 = .ok (.invokevirtual 61, 3) := by decide +kernel
theorem dX6_valueOf_38 : decode cX6_valueOf 38 = .ok (.iconst (-1), 1) := by decide +kernel
theorem dX6_valueOf_39 : decode cX6_valueOf 39 = .ok (.if_icmp .ne 7, 3) := by decide +kernel
theorem dX6_valueOf_42 : decode cX6_valueOf 42 = .ok (.iconst 0, 1) := by decide +kernel
theorem dX6_valueOf_43 : decode cX6_valueOf 43 = .ok (.goto 4, 3) := by decide +kernel
theorem dX6_valueOf_46 : decode cX6_valueOf 46 = .ok (.iconst 1, 1) := by decide +kernel
theorem dX6_valueOf_47 : decode cX6_valueOf 47 = .ok (.iadd, 1) := by decide +kernel
theorem dX6_valueOf_48 : decode cX6_valueOf 48 = .ok (.istore_n 2, 1) := by decide +kernel
theorem dX6_valueOf_49 : decode cX6_valueOf 49 = .ok (.iload_n 3, 1) := by decide +kernel
theorem dX6_valueOf_50 : decode cX6_valueOf 50 = .ok (.aload_n 0, 1) := by decide +kernel
theorem dX6_valueOf_51 : decode cX6_valueOf 51 = .ok (.iload 4, 2) := by decide +kernel
theorem dX6_valueOf_53 : decode cX6_valueOf 53 = .ok (.iconst 4, 1) := by decide +kernel
theorem dX6_valueOf_54 : decode cX6_valueOf 54 = .ok (.invokevirtual 61, 3) := by decide +kernel
theorem dX6_valueOf_57 : decode cX6_valueOf 57 = .ok (.iadd, 1) := by decide +kernel
theorem dX6_valueOf_58 : decode cX6_valueOf 58 = .ok (.istore_n 3, 1) := by decide +kernel
theorem dX6_valueOf_59 : decode cX6_valueOf 59 = .ok (.iinc 4 1, 3) := by decide +kernel
theorem dX6_valueOf_62 : decode cX6_valueOf 62 = .ok (.goto (-43), 3) := by decide +kernel
theorem dX6_valueOf_65 : decode cX6_valueOf 65 = .ok (.iconst 0, 1) := by decide +kernel
theorem dX6_valueOf_66 : decode cX6_valueOf 66 = .ok (.istore 4, 2) := by decide +kernel
theorem dX6_valueOf_68 : decode cX6_valueOf 68 = .ok (.iconst 0, 1) := by decide +kernel
theorem dX6_valueOf_69 : decode cX6_valueOf 69 = .ok (.istore 5, 2) := by decide +kernel
theorem dX6_valueOf_71 : decode cX6_valueOf 71 = .ok (.iload 5, 2) := by decide +kernel
theorem dX6_valueOf_73 : decode cX6_valueOf 73 = .ok (.sipush 999, 3) := by decide +kernel
theorem dX6_valueOf_76 : decode cX6_valueOf 76 = .ok (.if_icmp .gt 34, 3) := by decide +kernel
theorem dX6_valueOf_79 : decode cX6_valueOf 79 = .ok (.iload_n 1, 1) := by decide +kernel
theorem dX6_valueOf_80 : decode cX6_valueOf 80 = .ok (.bipush 7, 2) := by decide +kernel
theorem dX6_valueOf_82 : decode cX6_valueOf 82 = .ok (.if_icmp .ne 28, 3) := by decide +kernel
theorem dX6_valueOf_85 : decode cX6_valueOf 85 = .ok (.iload 4, 2) := by decide +kernel
theorem dX6_valueOf_87 : decode cX6_valueOf 87 = .ok (.aload_n 0, 1) := by decide +kernel
theorem dX6_valueOf_88 : decode cX6_valueOf 88 = .ok (.iload 5, 2) := by decide +kernel
theorem dX6_valueOf_90 : decode cX6_valueOf 90 = .ok (.invokevirtual 123, 3) := by decide +kernel
theorem dX6_valueOf_93 : decode cX6_valueOf 93 = .ok (.ifCond .eq 7, 3) := by decide +kernel
theorem dX6_valueOf_96 : decode cX6_valueOf 96 = .ok (.iconst 1, 1) := by decide +kernel
theorem dX6_valueOf_97 : decode cX6_valueOf 97 = .ok (.goto 4, 3) := by decide +kernel
theorem dX6_valueOf_100 : decode cX6_valueOf 100 = .ok (.iconst 0, 1) := by decide +kernel
theorem dX6_valueOf_101 : decode cX6_valueOf 101 = .ok (.iadd, 1) := by decide +kernel
theorem dX6_valueOf_102 : decode cX6_valueOf 102 = .ok (.istore 4, 2) := by decide +kernel
theorem dX6_valueOf_104 : decode cX6_valueOf 104 = .ok (.iinc 5 1, 3) := by decide +kernel
theorem dX6_valueOf_107 : decode cX6_valueOf 107 = .ok (.goto (-36), 3) := by decide +kernel
theorem dX6_valueOf_110 : decode cX6_valueOf 110 = .ok (.iload_n 1, 1) := by decide +kernel
theorem dX6_valueOf_111 : decode cX6_valueOf 111 = .ok (.iconst 4, 1) := by decide +kernel
theorem dX6_valueOf_112 : decode cX6_valueOf 112 = .ok (.if_icmp .ne 7, 3) := by decide +kernel
theorem dX6_valueOf_115 : decode cX6_valueOf 115 = .ok (.iload_n 2, 1) := by decide +kernel
theorem dX6_valueOf_116 : decode cX6_valueOf 116 = .ok (.goto 27, 3) := by decide +kernel
theorem dX6_valueOf_119 : decode cX6_valueOf 119 = .ok (.iload_n 1, 1) := by decide +kernel
theorem dX6_valueOf_120 : decode cX6_valueOf 120 = .ok (.iconst 5, 1) := by decide +kernel
theorem dX6_valueOf_121 : decode cX6_valueOf 121 = .ok (.if_icmp .ne 10, 3) := by decide +kernel
theorem dX6_valueOf_124 : decode cX6_valueOf 124 = .ok (.aload_n 0, 1) := by decide +kernel
theorem dX6_valueOf_125 : decode cX6_valueOf 125 = .ok (.invokevirtual 138, 3) := by decide +kernel
theorem dX6_valueOf_128 : decode cX6_valueOf 128 = .ok (.goto 15, 3) := by decide +kernel
theorem dX6_valueOf_131 : decode cX6_valueOf 131 = .ok (.iload_n 1, 1) := by decide +kernel
theorem dX6_valueOf_132 : decode cX6_valueOf 132 = .ok (.bipush 6, 2) := by decide +kernel
theorem dX6_valueOf_134 : decode cX6_valueOf 134 = .ok (.if_icmp .ne 7, 3) := by decide +kernel
theorem dX6_valueOf_137 : decode cX6_valueOf 137 = .ok (.iload_n 3, 1) := by decide +kernel
theorem dX6_valueOf_138 : decode cX6_valueOf 138 = .ok (.goto 5, 3) := by decide +kernel
theorem dX6_valueOf_141 : decode cX6_valueOf 141 = .ok (.iload 4, 2) := by decide +kernel
theorem dX6_valueOf_143 : decode cX6_valueOf 143 = .ok (.ireturn, 1) := by decide +kernel
set_option maxRecDepth 20000 in
theorem ggX6_value_X6_in : GoodIn wsX6_value wsX6_in := goodIn_r _ [5] (by decide +kernel) (by decide +kernel)
set_option maxRecDepth 20000 in
theorem gX6_value_X6_in : GoodIn wsX6_value (va_wsS RX6 23 yX6_in wsX6_in) := goodIn_app (goodIn_of _ (by decide +kernel)) ggX6_value_X6_in
set_option maxRecDepth 20000 in
theorem ggX6_value_X6_valueOf : GoodIn wsX6_value wsX6_valueOf := goodIn_r _ [9, 10, 11, 12, 13, 4, 14, 15, 16, 17, 18, 19, 20, 21, 22, 23, 24, 25, 26, 27, 28, 29, 30, 31, 32, 33, 34, 35, 36, 37, 38, 39, 40, 41, 42, 43, 44, 45, 46, 47, 48, 49, 50, 51, 52, 53, 2, 3, 5, 54, 55, 56, 57, 58, 59, 60, 61, 62, 63, 64, 65, 66, 67, 68, 69, 70, 71, 72, 73, 74] (by decide +kernel) (by decide +kernel)
set_option maxRecDepth 20000 in
theorem gX6_value_X6_valueOf : GoodIn wsX6_value (wsV RX6 142 RX6 yX6_valueOf wsX6_valueOf) := goodIn_app (goodIn_of _ (by decide +kernel)) ggX6_value_X6_valueOf
theorem dX6_value_0 : decode cX6_value 0 = .ok (.aload_n 0, 1) := by decide +kernel
theorem dX6_value_1 : decode cX6_value 1 = .ok (.iload_n 1, 1) := by decide +kernel
theorem dX6_value_2 : decode cX6_value 2 = .ok (.iconst 0, 1) := by decide +kernel
theorem dX6_value_3 : decode cX6_value 3 = .ok (.bipush 7, 2) := by decide +kernel
theorem dX6_value_5 : decode cX6_value 5 = .ok (.invokestatic 23, 3) := by decide +kernel
theorem dX6_value_8 : decode cX6_value 8 = .ok (.ifCond .eq 7, 3) := by decide +kernel
theorem dX6_value_11 : decode cX6_value 11 = .ok (.iconst 0, 1) := by decide +kernel
theorem dX6_value_12 : decode cX6_value 12 = .ok (.goto 4, 3) := by decide +kernel
theorem dX6_value_15 : decode cX6_value 15 = .ok (.iconst 1, 1) := by decide +kernel
theorem dX6_value_16 : decode cX6_value 16 = .ok (.putfield 19, 3) := by decide +kernel
theorem dX6_value_19 : decode cX6_value 19 = .ok (.aload_n 0, 1) := by decide +kernel
theorem dX6_value_20 : decode cX6_value 20 = .ok (.getfield 19, 3) := by decide +kernel
theorem dX6_value_23 : decode cX6_value 23 = .ok (.ifCond .le 7, 3) := by decide +kernel
theorem dX6_value_26 : decode cX6_value 26 = .ok (.iconst 0, 1) := by decide +kernel
theorem dX6_value_27 : decode cX6_value 27 = .ok (.goto 8, 3) := by decide +kernel
theorem dX6_value_30 : decode cX6_value 30 = .ok (.aload_n 0, 1) := by decide +kernel
theorem dX6_value_31 : decode cX6_value 31 = .ok (.iload_n 1, 1) := by decide +kernel
theorem dX6_value_32 : decode cX6_value 32 = .ok (.invokevirtual 142, 3) := by decide +kernel
theorem dX6_value_35 : decode cX6_value 35 = .ok (.ireturn, 1) := by decide +kernel
set_option maxRecDepth 20000 in
theorem ggX6_firstOf_X6_isStranded : GoodIn wsX6_firstOf wsX6_isStranded := goodIn_r _ [5, 6, 7, 8, 4, 9, 10, 11, 12, 13, 14, 15, 16, 17, 18, 19, 20, 21, 22, 23, 24, 25, 26, 27, 28, 29, 30, 31, 32, 33, 34, 35, 36, 37, 38, 39, 40, 41, 42, 43, 44, 45, 46, 47, 48, 49, 50, 51, 52, 53, 54, 55, 56, 57, 58] (by decide +kernel) (by decide +kernel)
set_option maxRecDepth 20000 in
theorem gX6_firstOf_X6_isStranded : GoodIn wsX6_firstOf (wsV RX6 120 RX6 yX6_isStranded wsX6_isStranded) := goodIn_app (goodIn_of _ (by decide +kernel)) ggX6_firstOf_X6_isStranded
theorem dX6_firstOf_0 : decode cX6_firstOf 0 = .ok (.iload_n 2, 1) := by decide +kernel
theorem dX6_firstOf_1 : decode cX6_firstOf 1 = .ok (.istore_n 3, 1) := by decide +kernel
theorem dX6_firstOf_2 : decode cX6_firstOf 2 = .ok (.iload_n 3, 1) := by decide +kernel
theorem dX6_firstOf_3 : decode cX6_firstOf 3 = .ok (.sipush 999, 3) := by decide +kernel
theorem dX6_firstOf_6 : decode cX6_firstOf 6 = .ok (.if_icmp .gt 20, 3) := by decide +kernel
theorem dX6_firstOf_9 : decode cX6_firstOf 9 = .ok (.aload_n 0, 1) := by decide +kernel
theorem dX6_firstOf_10 : decode cX6_firstOf 10 = .ok (.iload_n 1, 1) := by decide +kernel
theorem dX6_firstOf_11 : decode cX6_firstOf 11 = .ok (.iload_n 3, 1) := by decide +kernel
theorem dX6_firstOf_12 : decode cX6_firstOf 12 = .ok (.invokevirtual 120, 3) := by decide +kernel
theorem dX6_firstOf_15 : decode cX6_firstOf 15 = .ok (.ifCond .eq 5, 3) := by decide +kernel
theorem dX6_firstOf_18 : decode cX6_firstOf 18 = .ok (.iload_n 3, 1) := by decide +kernel
theorem dX6_firstOf_19 : decode cX6_firstOf 19 = .ok (.ireturn, 1) := by decide +kernel
theorem dX6_firstOf_20 : decode cX6_firstOf 20 = .ok (.iinc 3 1, 3) := by decide +kernel
theorem dX6_firstOf_23 : decode cX6_firstOf 23 = .ok (.goto (-21), 3) := by decide +kernel
theorem dX6_firstOf_26 : decode cX6_firstOf 26 = .ok (.iconst (-1), 1) := by decide +kernel
theorem dX6_firstOf_27 : decode cX6_firstOf 27 = .ok (.ireturn, 1) := by decide +kernel
set_option maxRecDepth 20000 in
theorem ggX6_firstStranded_X6_isUser : GoodIn wsX6_firstStranded wsX6_isUser := goodIn_r _ [6, 7, 8, 9, 5, 10, 57, 58, 59, 60, 61, 62, 63, 64, 65, 66, 67, 68, 69, 70] (by decide +kernel) (by decide +kernel)
set_option maxRecDepth 20000 in
theorem gX6_firstStranded_X6_isUser : GoodIn wsX6_firstStranded (wsV RX6 48 RX6 yX6_isUser wsX6_isUser) := goodIn_app (goodIn_of _ (by decide +kernel)) ggX6_firstStranded_X6_isUser
set_option maxRecDepth 20000 in
theorem ggX6_firstStranded_X6_isDay : GoodIn wsX6_firstStranded wsX6_isDay := goodIn_r _ [13, 8, 9, 5, 10] (by decide +kernel) (by decide +kernel)
set_option maxRecDepth 20000 in
theorem gX6_firstStranded_X6_isDay : GoodIn wsX6_firstStranded (va_wsS RX6 51 yX6_isDay wsX6_isDay) := goodIn_app (goodIn_of _ (by decide +kernel)) ggX6_firstStranded_X6_isDay
set_option maxRecDepth 20000 in
theorem ggX6_firstStranded_X6_firstOf : GoodIn wsX6_firstStranded wsX6_firstOf := goodIn_r _ [17, 18, 19, 20, 5, 21, 22, 23, 24, 25, 26, 27, 28, 29, 7, 30, 31, 32, 33, 34, 35, 36, 37, 38, 39, 40, 41, 42, 43, 44, 45, 46, 47, 48, 49, 50, 51, 52, 53, 54, 55, 56, 8, 9, 10, 57, 58, 59, 60, 61, 62, 63, 64, 65, 66, 67, 68, 69, 70] (by decide +kernel) (by decide +kernel)
set_option maxRecDepth 20000 in
theorem gX6_firstStranded_X6_firstOf : GoodIn wsX6_firstStranded (wsV RX6 145 RX6 yX6_firstOf wsX6_firstOf) := goodIn_app (goodIn_of _ (by decide +kernel)) ggX6_firstStranded_X6_firstOf
theorem dX6_firstStranded_0 : decode cX6_firstStranded 0 = .ok (.aload_n 0, 1) := by decide +kernel
theorem dX6_firstStranded_1 : decode cX6_firstStranded 1 = .ok (.aload_n 0, 1) := by decide +kernel
theorem dX6_firstStranded_2 : decode cX6_firstStranded 2 = .ok (.iload_n 1, 1) := by decide +kernel
theorem dX6_firstStranded_3 : decode cX6_firstStranded 3 = .ok (.invokevirtual 48, 3) := by decide +kernel
theorem dX6_firstStranded_6 : decode cX6_firstStranded 6 = .ok (.ifCond .ne 7, 3) := by decide +kernel
theorem dX6_firstStranded_9 : decode cX6_firstStranded 9 = .ok (.iconst 1, 1) := by decide +kernel
theorem dX6_firstStranded_10 : decode cX6_firstStranded 10 = .ok (.goto 15, 3) := by decide +kernel
theorem dX6_firstStranded_13 : decode cX6_firstStranded 13 = .ok (.iload_n 2, 1) := by decide +kernel
theorem dX6_firstStranded_14 : decode cX6_firstStranded 14 = .ok (.invokestatic 51, 3) := by decide +kernel
theorem dX6_firstStranded_17 : decode cX6_firstStranded 17 = .ok (.ifCond .ne 7, 3) := by decide +kernel
theorem dX6_firstStranded_20 : decode cX6_firstStranded 20 = .ok (.iconst 2, 1) := by decide +kernel
theorem dX6_firstStranded_21 : decode cX6_firstStranded 21 = .ok (.goto 4, 3) := by decide +kernel
theorem dX6_firstStranded_24 : decode cX6_firstStranded 24 = .ok (.iconst 0, 1) := by decide +kernel
theorem dX6_firstStranded_25 : decode cX6_firstStranded 25 = .ok (.putfield 19, 3) := by decide +kernel
theorem dX6_firstStranded_28 : decode cX6_firstStranded 28 = .ok (.aload_n 0, 1) := by decide +kernel
theorem dX6_firstStranded_29 : decode cX6_firstStranded 29 = .ok (.getfield 19, 3) := by decide +kernel
theorem dX6_firstStranded_32 : decode cX6_firstStranded 32 = .ok (.ifCond .le 7, 3) := by decide +kernel
theorem dX6_firstStranded_35 : decode cX6_firstStranded 35 = .ok (.iconst 0, 1) := by decide +kernel
theorem dX6_firstStranded_36 : decode cX6_firstStranded 36 = .ok (.goto 9, 3) := by decide +kernel
theorem dX6_firstStranded_39 : decode cX6_firstStranded 39 = .ok (.aload_n 0, 1) := by decide +kernel
theorem dX6_firstStranded_40 : decode cX6_firstStranded 40 = .ok (.iload_n 1, 1) := by decide +kernel
theorem dX6_firstStranded_41 : decode cX6_firstStranded 41 = .ok (.iload_n 2, 1) := by decide +kernel
theorem dX6_firstStranded_42 : decode cX6_firstStranded 42 = .ok (.invokevirtual 145, 3) := by decide +kernel
theorem dX6_firstStranded_45 : decode cX6_firstStranded 45 = .ok (.ireturn, 1) := by decide +kernel
set_option maxRecDepth 20000 in
theorem ggX6_latestMove_X6_isUser : GoodIn wsX6_latestMove wsX6_isUser := goodIn_r _ [6, 7, 8, 9, 5, 10, 49, 50, 51, 52, 53, 54, 55, 56, 57, 58, 59, 60, 61, 62] (by decide +kernel) (by decide +kernel)
set_option maxRecDepth 20000 in
theorem gX6_latestMove_X6_isUser : GoodIn wsX6_latestMove (wsV RX6 48 RX6 yX6_isUser wsX6_isUser) := goodIn_app (goodIn_of _ (by decide +kernel)) ggX6_latestMove_X6_isUser
set_option maxRecDepth 20000 in
theorem ggX6_latestMove_X6_isVersion : GoodIn wsX6_latestMove wsX6_isVersion := goodIn_r _ [14, 7, 8, 9, 5, 10, 49, 50, 51, 52, 53, 54, 55, 56, 57, 58, 59, 60, 61, 62] (by decide +kernel) (by decide +kernel)
set_option maxRecDepth 20000 in
theorem gX6_latestMove_X6_isVersion : GoodIn wsX6_latestMove (wsV RX6 41 RX6 yX6_isVersion wsX6_isVersion) := goodIn_app (goodIn_of _ (by decide +kernel)) ggX6_latestMove_X6_isVersion
set_option maxRecDepth 20000 in
theorem ggX6_latestMove_X6_isDay : GoodIn wsX6_latestMove wsX6_isDay := goodIn_r _ [17, 8, 9, 5, 10] (by decide +kernel) (by decide +kernel)
set_option maxRecDepth 20000 in
theorem gX6_latestMove_X6_isDay : GoodIn wsX6_latestMove (va_wsS RX6 51 yX6_isDay wsX6_isDay) := goodIn_app (goodIn_of _ (by decide +kernel)) ggX6_latestMove_X6_isDay
set_option maxRecDepth 20000 in
theorem ggX6_latestMove_X6_ofUser : GoodIn wsX6_latestMove wsX6_ofUser := goodIn_r _ [21, 7, 49, 50, 51, 52, 53, 54, 55, 56, 57, 58, 59, 60, 61, 62] (by decide +kernel) (by decide +kernel)
set_option maxRecDepth 20000 in
theorem gX6_latestMove_X6_ofUser : GoodIn wsX6_latestMove (wsV RX6 61 RX6 yX6_ofUser wsX6_ofUser) := goodIn_app (goodIn_of _ (by decide +kernel)) ggX6_latestMove_X6_ofUser
set_option maxRecDepth 20000 in
theorem ggX6_latestMove_X6_missingOn : GoodIn wsX6_latestMove wsX6_missingOn := goodIn_r _ [25, 7, 18, 19, 20, 5, 21, 26, 27, 28, 29, 30, 31, 32, 33, 34, 35, 36, 37, 38, 39, 40, 41, 42, 43, 44, 45, 46, 47, 48, 8, 9, 10, 49, 50, 51, 52, 53, 54, 55, 56, 57, 58, 59, 60, 61, 62] (by decide +kernel) (by decide +kernel)
set_option maxRecDepth 20000 in
theorem gX6_latestMove_X6_missingOn : GoodIn wsX6_latestMove (wsV RX6 117 RX6 yX6_missingOn wsX6_missingOn) := goodIn_app (goodIn_of _ (by decide +kernel)) ggX6_latestMove_X6_missingOn
theorem dX6_latestMove_0 : decode cX6_latestMove 0 = .ok (.aload_n 0, 1) := by decide +kernel
theorem dX6_latestMove_1 : decode cX6_latestMove 1 = .ok (.aload_n 0, 1) := by decide +kernel
theorem dX6_latestMove_2 : decode cX6_latestMove 2 = .ok (.iload_n 1, 1) := by decide +kernel
theorem dX6_latestMove_3 : decode cX6_latestMove 3 = .ok (.invokevirtual 48, 3) := by decide +kernel
theorem dX6_latestMove_6 : decode cX6_latestMove 6 = .ok (.ifCond .eq 11, 3) := by decide +kernel
theorem dX6_latestMove_9 : decode cX6_latestMove 9 = .ok (.aload_n 0, 1) := by decide +kernel
theorem dX6_latestMove_10 : decode cX6_latestMove 10 = .ok (.iload_n 2, 1) := by decide +kernel
theorem dX6_latestMove_11 : decode cX6_latestMove 11 = .ok (.invokevirtual 41, 3) := by decide +kernel
theorem dX6_latestMove_14 : decode cX6_latestMove 14 = .ok (.ifCond .ne 7, 3) := by decide +kernel
theorem dX6_latestMove_17 : decode cX6_latestMove 17 = .ok (.iconst 1, 1) := by decide +kernel
theorem dX6_latestMove_18 : decode cX6_latestMove 18 = .ok (.goto 15, 3) := by decide +kernel
theorem dX6_latestMove_21 : decode cX6_latestMove 21 = .ok (.iload_n 3, 1) := by decide +kernel
theorem dX6_latestMove_22 : decode cX6_latestMove 22 = .ok (.invokestatic 51, 3) := by decide +kernel
theorem dX6_latestMove_25 : decode cX6_latestMove 25 = .ok (.ifCond .ne 7, 3) := by decide +kernel
theorem dX6_latestMove_28 : decode cX6_latestMove 28 = .ok (.iconst 2, 1) := by decide +kernel
theorem dX6_latestMove_29 : decode cX6_latestMove 29 = .ok (.goto 4, 3) := by decide +kernel
theorem dX6_latestMove_32 : decode cX6_latestMove 32 = .ok (.iconst 0, 1) := by decide +kernel
theorem dX6_latestMove_33 : decode cX6_latestMove 33 = .ok (.putfield 19, 3) := by decide +kernel
theorem dX6_latestMove_36 : decode cX6_latestMove 36 = .ok (.aload_n 0, 1) := by decide +kernel
theorem dX6_latestMove_37 : decode cX6_latestMove 37 = .ok (.getfield 19, 3) := by decide +kernel
theorem dX6_latestMove_40 : decode cX6_latestMove 40 = .ok (.ifCond .le 5, 3) := by decide +kernel
theorem dX6_latestMove_43 : decode cX6_latestMove 43 = .ok (.iconst 0, 1) := by decide +kernel
theorem dX6_latestMove_44 : decode cX6_latestMove 44 = .ok (.ireturn, 1) := by decide +kernel
theorem dX6_latestMove_45 : decode cX6_latestMove 45 = .ok (.aload_n 0, 1) := by decide +kernel
theorem dX6_latestMove_46 : decode cX6_latestMove 46 = .ok (.iload_n 1, 1) := by decide +kernel
theorem dX6_latestMove_47 : decode cX6_latestMove 47 = .ok (.iconst 0, 1) := by decide +kernel
theorem dX6_latestMove_48 : decode cX6_latestMove 48 = .ok (.invokevirtual 61, 3) := by decide +kernel
theorem dX6_latestMove_51 : decode cX6_latestMove 51 = .ok (.istore 4, 2) := by decide +kernel
theorem dX6_latestMove_53 : decode cX6_latestMove 53 = .ok (.iload_n 3, 1) := by decide +kernel
theorem dX6_latestMove_54 : decode cX6_latestMove 54 = .ok (.istore 5, 2) := by decide +kernel
theorem dX6_latestMove_56 : decode cX6_latestMove 56 = .ok (.iload 5, 2) := by decide +kernel
theorem dX6_latestMove_58 : decode cX6_latestMove 58 = .ok (.sipush 999, 3) := by decide +kernel
theorem dX6_latestMove_61 : decode cX6_latestMove 61 = .ok (.if_icmp .ge 21, 3) := by decide +kernel
theorem dX6_latestMove_64 : decode cX6_latestMove 64 = .ok (.aload_n 0, 1) := by decide +kernel
theorem dX6_latestMove_65 : decode cX6_latestMove 65 = .ok (.iload_n 1, 1) := by decide +kernel
theorem dX6_latestMove_66 : decode cX6_latestMove 66 = .ok (.iload 4, 2) := by decide +kernel
theorem dX6_latestMove_68 : decode cX6_latestMove 68 = .ok (.iload 5, 2) := by decide +kernel
theorem dX6_latestMove_70 : decode cX6_latestMove 70 = .ok (.invokevirtual 117, 3) := by decide +kernel
theorem dX6_latestMove_73 : decode cX6_latestMove 73 = .ok (.ifCond .ne 9, 3) := by decide +kernel
theorem dX6_latestMove_76 : decode cX6_latestMove 76 = .ok (.iinc 5 1, 3) := by decide +kernel
theorem dX6_latestMove_79 : decode cX6_latestMove 79 = .ok (.goto (-23), 3) := by decide +kernel
theorem dX6_latestMove_82 : decode cX6_latestMove 82 = .ok (.iload 5, 2) := by decide +kernel
theorem dX6_latestMove_84 : decode cX6_latestMove 84 = .ok (.istore 6, 2) := by decide +kernel
theorem dX6_latestMove_86 : decode cX6_latestMove 86 = .ok (.iload 6, 2) := by decide +kernel
theorem dX6_latestMove_88 : decode cX6_latestMove 88 = .ok (.sipush 999, 3) := by decide +kernel
theorem dX6_latestMove_91 : decode cX6_latestMove 91 = .ok (.if_icmp .gt 22, 3) := by decide +kernel
theorem dX6_latestMove_94 : decode cX6_latestMove 94 = .ok (.aload_n 0, 1) := by decide +kernel
theorem dX6_latestMove_95 : decode cX6_latestMove 95 = .ok (.iload_n 1, 1) := by decide +kernel
theorem dX6_latestMove_96 : decode cX6_latestMove 96 = .ok (.iload_n 2, 1) := by decide +kernel
theorem dX6_latestMove_97 : decode cX6_latestMove 97 = .ok (.iload 6, 2) := by decide +kernel
theorem dX6_latestMove_99 : decode cX6_latestMove 99 = .ok (.invokevirtual 117, 3) := by decide +kernel
theorem dX6_latestMove_102 : decode cX6_latestMove 102 = .ok (.ifCond .eq 5, 3) := by decide +kernel
theorem dX6_latestMove_105 : decode cX6_latestMove 105 = .ok (.iconst (-1), 1) := by decide +kernel
theorem dX6_latestMove_106 : decode cX6_latestMove 106 = .ok (.ireturn, 1) := by decide +kernel
theorem dX6_latestMove_107 : decode cX6_latestMove 107 = .ok (.iinc 6 1, 3) := by decide +kernel
theorem dX6_latestMove_110 : decode cX6_latestMove 110 = .ok (.goto (-24), 3) := by decide +kernel
theorem dX6_latestMove_113 : decode cX6_latestMove 113 = .ok (.iload 5, 2) := by decide +kernel
theorem dX6_latestMove_115 : decode cX6_latestMove 115 = .ok (.ireturn, 1) := by decide +kernel
set_option maxRecDepth 20000 in
theorem ggX6_bestVersion_X6_isUser : GoodIn wsX6_bestVersion wsX6_isUser := goodIn_r _ [7, 2, 8, 9, 6, 10, 48, 49, 50, 51, 52, 53, 54, 55, 56, 57, 58, 59, 60, 61] (by decide +kernel) (by decide +kernel)
set_option maxRecDepth 20000 in
theorem gX6_bestVersion_X6_isUser : GoodIn wsX6_bestVersion (wsV RX6 48 RX6 yX6_isUser wsX6_isUser) := goodIn_app (goodIn_of _ (by decide +kernel)) ggX6_bestVersion_X6_isUser
set_option maxRecDepth 20000 in
theorem ggX6_bestVersion_X6_isDay : GoodIn wsX6_bestVersion wsX6_isDay := goodIn_r _ [13, 8, 9, 6, 10] (by decide +kernel) (by decide +kernel)
set_option maxRecDepth 20000 in
theorem gX6_bestVersion_X6_isDay : GoodIn wsX6_bestVersion (va_wsS RX6 51 yX6_isDay wsX6_isDay) := goodIn_app (goodIn_of _ (by decide +kernel)) ggX6_bestVersion_X6_isDay
set_option maxRecDepth 20000 in
theorem ggX6_bestVersion_X6_release : GoodIn wsX6_bestVersion wsX6_release := goodIn_r _ [17, 2, 48, 49, 50, 51, 52, 53, 54, 55, 56, 57, 58, 59, 60, 61] (by decide +kernel) (by decide +kernel)
set_option maxRecDepth 20000 in
theorem gX6_bestVersion_X6_release : GoodIn wsX6_bestVersion (wsV RX6 108 RX6 yX6_release wsX6_release) := goodIn_app (goodIn_of _ (by decide +kernel)) ggX6_bestVersion_X6_release
set_option maxRecDepth 20000 in
theorem ggX6_bestVersion_X6_end : GoodIn wsX6_bestVersion wsX6_end := goodIn_r _ [21, 2, 48, 49, 50, 51, 52, 53, 54, 55, 56, 57, 58, 59, 60, 61] (by decide +kernel) (by decide +kernel)
set_option maxRecDepth 20000 in
theorem gX6_bestVersion_X6_end : GoodIn wsX6_bestVersion (wsV RX6 71 RX6 yX6_end wsX6_end) := goodIn_app (goodIn_of _ (by decide +kernel)) ggX6_bestVersion_X6_end
set_option maxRecDepth 20000 in
theorem ggX6_bestVersion_X6_in : GoodIn wsX6_bestVersion wsX6_in := goodIn_r _ [10] (by decide +kernel) (by decide +kernel)
set_option maxRecDepth 20000 in
theorem gX6_bestVersion_X6_in : GoodIn wsX6_bestVersion (va_wsS RX6 23 yX6_in wsX6_in) := goodIn_app (goodIn_of _ (by decide +kernel)) ggX6_bestVersion_X6_in
set_option maxRecDepth 20000 in
theorem ggX6_bestVersion_X6_missingOn : GoodIn wsX6_bestVersion wsX6_missingOn := goodIn_r _ [25, 2, 26, 27, 28, 6, 29, 30, 31, 32, 33, 34, 35, 36, 14, 15, 16, 17, 18, 19, 20, 21, 37, 38, 39, 40, 41, 42, 43, 44, 8, 9, 10, 48, 49, 50, 51, 52, 53, 54, 55, 56, 57, 58, 59, 60, 61] (by decide +kernel) (by decide +kernel)
set_option maxRecDepth 20000 in
theorem gX6_bestVersion_X6_missingOn : GoodIn wsX6_bestVersion (wsV RX6 117 RX6 yX6_missingOn wsX6_missingOn) := goodIn_app (goodIn_of _ (by decide +kernel)) ggX6_bestVersion_X6_missingOn
set_option maxRecDepth 20000 in
theorem ggX6_bestVersion_X6_bits : GoodIn wsX6_bestVersion wsX6_bits := goodIn_r _ [47] (by decide +kernel) (by decide +kernel)
set_option maxRecDepth 20000 in
theorem gX6_bestVersion_X6_bits : GoodIn wsX6_bestVersion (va_wsS RX6 135 yX6_bits wsX6_bits) := goodIn_app (goodIn_of _ (by decide +kernel)) ggX6_bestVersion_X6_bits
theorem dX6_bestVersion_0 : decode cX6_bestVersion 0 = .ok (.aload_n 0, 1) := by decide +kernel
theorem dX6_bestVersion_1 : decode cX6_bestVersion 1 = .ok (.aload_n 0, 1) := by decide +kernel
theorem dX6_bestVersion_2 : decode cX6_bestVersion 2 = .ok (.iload_n 1, 1) := by decide +kernel
theorem dX6_bestVersion_3 : decode cX6_bestVersion 3 = .ok (.invokevirtual 48, 3) := by decide +kernel
theorem dX6_bestVersion_6 : decode cX6_bestVersion 6 = .ok (.ifCond .ne 7, 3) := by decide +kernel
theorem dX6_bestVersion_9 : decode cX6_bestVersion 9 = .ok (.iconst 1, 1) := by decide +kernel
theorem dX6_bestVersion_10 : decode cX6_bestVersion 10 = .ok (.goto 15, 3) := by decide +kernel
theorem dX6_bestVersion_13 : decode cX6_bestVersion 13 = .ok (.iload_n 2, 1) := by decide +kernel
theorem dX6_bestVersion_14 : decode cX6_bestVersion 14 = .ok (.invokestatic 51, 3) := by decide +kernel
theorem dX6_bestVersion_17 : decode cX6_bestVersion 17 = .ok (.ifCond .ne 7, 3) := by decide +kernel
theorem dX6_bestVersion_20 : decode cX6_bestVersion 20 = .ok (.iconst 2, 1) := by decide +kernel
theorem dX6_bestVersion_21 : decode cX6_bestVersion 21 = .ok (.goto 4, 3) := by decide +kernel
theorem dX6_bestVersion_24 : decode cX6_bestVersion 24 = .ok (.iconst 0, 1) := by decide +kernel
theorem dX6_bestVersion_25 : decode cX6_bestVersion 25 = .ok (.putfield 19, 3) := by decide +kernel
theorem dX6_bestVersion_28 : decode cX6_bestVersion 28 = .ok (.aload_n 0, 1) := by decide +kernel
theorem dX6_bestVersion_29 : decode cX6_bestVersion 29 = .ok (.getfield 19, 3) := by decide +kernel
theorem dX6_bestVersion_32 : decode cX6_bestVersion 32 = .ok (.ifCond .le 5, 3) := by decide +kernel
theorem dX6_bestVersion_35 : decode cX6_bestVersion 35 = .ok (.iconst 0, 1) := by decide +kernel
theorem dX6_bestVersion_36 : decode cX6_bestVersion 36 = .ok (.ireturn, 1) := by decide +kernel
theorem dX6_bestVersion_37 : decode cX6_bestVersion 37 = .ok (.iconst (-1), 1) := by decide +kernel
theorem dX6_bestVersion_38 : decode cX6_bestVersion 38 = .ok (.istore_n 3, 1) := by decide +kernel
theorem dX6_bestVersion_39 : decode cX6_bestVersion 39 = .ok (.iconst 0, 1) := by decide +kernel
theorem dX6_bestVersion_40 : decode cX6_bestVersion 40 = .ok (.istore 4, 2) := by decide +kernel
theorem dX6_bestVersion_42 : decode cX6_bestVersion 42 = .ok (.iconst 0, 1) := by decide +kernel
theorem dX6_bestVersion_43 : decode cX6_bestVersion 43 = .ok (.istore 5, 2) := by decide +kernel
theorem dX6_bestVersion_45 : decode cX6_bestVersion 45 = .ok (.iload 5, 2) := by decide +kernel
theorem dX6_bestVersion_47 : decode cX6_bestVersion 47 = .ok (.aload_n 0, 1) := by decide +kernel
theorem dX6_bestVersion_48 : decode cX6_bestVersion 48 = .ok (.getfield 7, 3) := by decide +kernel
theorem dX6_bestVersion_51 : decode cX6_bestVersion 51 = .ok (.iconst 0, 1) := by decide +kernel
theorem dX6_bestVersion_52 : decode cX6_bestVersion 52 = .ok (.iaload, 1) := by decide +kernel
theorem dX6_bestVersion_53 : decode cX6_bestVersion 53 = .ok (.if_icmp .ge 77, 3) := by decide +kernel
theorem dX6_bestVersion_56 : decode cX6_bestVersion 56 = .ok (.iload_n 2, 1) := by decide +kernel
theorem dX6_bestVersion_57 : decode cX6_bestVersion 57 = .ok (.aload_n 0, 1) := by decide +kernel
theorem dX6_bestVersion_58 : decode cX6_bestVersion 58 = .ok (.iload 5, 2) := by decide +kernel
theorem dX6_bestVersion_60 : decode cX6_bestVersion 60 = .ok (.invokevirtual 108, 3) := by decide +kernel
theorem dX6_bestVersion_63 : decode cX6_bestVersion 63 = .ok (.aload_n 0, 1) := by decide +kernel
theorem dX6_bestVersion_64 : decode cX6_bestVersion 64 = .ok (.iload 5, 2) := by decide +kernel
theorem dX6_bestVersion_66 : decode cX6_bestVersion 66 = .ok (.invokevirtual 71, 3) := by decide +kernel
theorem dX6_bestVersion_69 : decode cX6_bestVersion 69 = .ok (.iconst 1, 1) := by decide +kernel
theorem dX6_bestVersion_70 : decode cX6_bestVersion 70 = .ok (.isub, 1) := by decide +kernel
theorem dX6_bestVersion_71 : decode cX6_bestVersion 71 = .ok (.invokestatic 23, 3) := by decide +kernel
theorem dX6_bestVersion_74 : decode cX6_bestVersion 74 = .ok (.ifCond .eq 50, 3) := by decide +kernel
theorem dX6_bestVersion_77 : decode cX6_bestVersion 77 = .ok (.aload_n 0, 1) := by decide +kernel
theorem dX6_bestVersion_78 : decode cX6_bestVersion 78 = .ok (.iload_n 1, 1) := by decide +kernel
theorem dX6_bestVersion_79 : decode cX6_bestVersion 79 = .ok (.iload 5, 2) := by decide +kernel
theorem dX6_bestVersion_81 : decode cX6_bestVersion 81 = .ok (.iload_n 2, 1) := by decide +kernel
theorem dX6_bestVersion_82 : decode cX6_bestVersion 82 = .ok (.invokevirtual 117, 3) := by decide +kernel
theorem dX6_bestVersion_85 : decode cX6_bestVersion 85 = .ok (.invokestatic 135, 3) := by decide +kernel
theorem dX6_bestVersion_88 : decode cX6_bestVersion 88 = .ok (.istore 6, 2) := by decide +kernel
theorem dX6_bestVersion_90 : decode cX6_bestVersion 90 = .ok (.iload_n 3, 1) := by decide +kernel
theorem dX6_bestVersion_91 : decode cX6_bestVersion 91 = .ok (.iconst (-1), 1) := by decide +kernel
theorem dX6_bestVersion_92 : decode cX6_bestVersion 92 = .ok (.if_icmp .eq 10, 3) := by decide +kernel
theorem dX6_bestVersion_95 : decode cX6_bestVersion 95 = .ok (.iload 6, 2) := by decide +kernel
theorem dX6_bestVersion_97 : decode cX6_bestVersion 97 = .ok (.iload 4, 2) := by decide +kernel
theorem dX6_bestVersion_99 : decode cX6_bestVersion 99 = .ok (.if_icmp .ge 8, 3) := by decide +kernel
theorem dX6_bestVersion_102 : decode cX6_bestVersion 102 = .ok (.iload 5, 2) := by decide +kernel
theorem dX6_bestVersion_104 : decode cX6_bestVersion 104 = .ok (.goto 4, 3) := by decide +kernel
theorem dX6_bestVersion_107 : decode cX6_bestVersion 107 = .ok (.iload_n 3, 1) := by decide +kernel
theorem dX6_bestVersion_108 : decode cX6_bestVersion 108 = .ok (.istore_n 3, 1) := by decide +kernel
theorem dX6_bestVersion_109 : decode cX6_bestVersion 109 = .ok (.iload_n 3, 1) := by decide +kernel
theorem dX6_bestVersion_110 : decode cX6_bestVersion 110 = .ok (.iload 5, 2) := by decide +kernel
theorem dX6_bestVersion_112 : decode cX6_bestVersion 112 = .ok (.if_icmp .ne 8, 3) := by decide +kernel
theorem dX6_bestVersion_115 : decode cX6_bestVersion 115 = .ok (.iload 6, 2) := by decide +kernel
theorem dX6_bestVersion_117 : decode cX6_bestVersion 117 = .ok (.goto 5, 3) := by decide +kernel
theorem dX6_bestVersion_120 : decode cX6_bestVersion 120 = .ok (.iload 4, 2) := by decide +kernel
theorem dX6_bestVersion_122 : decode cX6_bestVersion 122 = .ok (.istore 4, 2) := by decide +kernel
theorem dX6_bestVersion_124 : decode cX6_bestVersion 124 = .ok (.iinc 5 1, 3) := by decide +kernel
theorem dX6_bestVersion_127 : decode cX6_bestVersion 127 = .ok (.goto (-82), 3) := by decide +kernel
theorem dX6_bestVersion_130 : decode cX6_bestVersion 130 = .ok (.iload_n 3, 1) := by decide +kernel
theorem dX6_bestVersion_131 : decode cX6_bestVersion 131 = .ok (.ireturn, 1) := by decide +kernel
set_option maxRecDepth 20000 in
theorem ggX6_cheapest_X6_isUser : GoodIn wsX6_cheapest wsX6_isUser := goodIn_r _ [7, 2, 8, 9, 6, 10, 52, 53, 54, 55, 56, 57, 58, 59, 60, 61, 62, 63, 64, 65] (by decide +kernel) (by decide +kernel)
set_option maxRecDepth 20000 in
theorem gX6_cheapest_X6_isUser : GoodIn wsX6_cheapest (wsV RX6 48 RX6 yX6_isUser wsX6_isUser) := goodIn_app (goodIn_of _ (by decide +kernel)) ggX6_cheapest_X6_isUser
set_option maxRecDepth 20000 in
theorem ggX6_cheapest_X6_areDays : GoodIn wsX6_cheapest wsX6_areDays := goodIn_r _ [13, 14, 15, 6, 16, 8, 9, 10] (by decide +kernel) (by decide +kernel)
set_option maxRecDepth 20000 in
theorem gX6_cheapest_X6_areDays : GoodIn wsX6_cheapest (va_wsS RX6 129 yX6_areDays wsX6_areDays) := goodIn_app (goodIn_of _ (by decide +kernel)) ggX6_cheapest_X6_areDays
set_option maxRecDepth 20000 in
theorem ggX6_cheapest_X6_missingOn : GoodIn wsX6_cheapest wsX6_missingOn := goodIn_r _ [20, 2, 21, 22, 23, 6, 24, 25, 26, 27, 28, 29, 30, 31, 32, 33, 34, 35, 36, 37, 38, 39, 40, 41, 42, 43, 44, 45, 46, 47, 8, 9, 10, 52, 53, 54, 55, 56, 57, 58, 59, 60, 61, 62, 63, 64, 65] (by decide +kernel) (by decide +kernel)
set_option maxRecDepth 20000 in
theorem gX6_cheapest_X6_missingOn : GoodIn wsX6_cheapest (wsV RX6 117 RX6 yX6_missingOn wsX6_missingOn) := goodIn_app (goodIn_of _ (by decide +kernel)) ggX6_cheapest_X6_missingOn
set_option maxRecDepth 20000 in
theorem ggX6_cheapest_X6_costOn : GoodIn wsX6_cheapest wsX6_costOn := goodIn_r _ [51, 2, 21, 22, 23, 6, 24, 25, 26, 27, 28, 29, 30, 31, 32, 33, 34, 35, 36, 37, 38, 39, 40, 41, 42, 43, 44, 45, 46, 47, 8, 9, 10, 52, 53, 54, 55, 56, 57, 58, 59, 60, 61, 62, 63, 64, 65] (by decide +kernel) (by decide +kernel)
set_option maxRecDepth 20000 in
theorem gX6_cheapest_X6_costOn : GoodIn wsX6_cheapest (wsV RX6 126 RX6 yX6_costOn wsX6_costOn) := goodIn_app (goodIn_of _ (by decide +kernel)) ggX6_cheapest_X6_costOn
theorem dX6_cheapest_0 : decode cX6_cheapest 0 = .ok (.aload_n 0, 1) := by decide +kernel
theorem dX6_cheapest_1 : decode cX6_cheapest 1 = .ok (.aload_n 0, 1) := by decide +kernel
theorem dX6_cheapest_2 : decode cX6_cheapest 2 = .ok (.iload_n 1, 1) := by decide +kernel
theorem dX6_cheapest_3 : decode cX6_cheapest 3 = .ok (.invokevirtual 48, 3) := by decide +kernel
theorem dX6_cheapest_6 : decode cX6_cheapest 6 = .ok (.ifCond .ne 7, 3) := by decide +kernel
theorem dX6_cheapest_9 : decode cX6_cheapest 9 = .ok (.iconst 1, 1) := by decide +kernel
theorem dX6_cheapest_10 : decode cX6_cheapest 10 = .ok (.goto 16, 3) := by decide +kernel
theorem dX6_cheapest_13 : decode cX6_cheapest 13 = .ok (.iload_n 2, 1) := by decide +kernel
theorem dX6_cheapest_14 : decode cX6_cheapest 14 = .ok (.iload_n 3, 1) := by decide +kernel
theorem dX6_cheapest_15 : decode cX6_cheapest 15 = .ok (.invokestatic 129, 3) := by decide +kernel
theorem dX6_cheapest_18 : decode cX6_cheapest 18 = .ok (.ifCond .ne 7, 3) := by decide +kernel
theorem dX6_cheapest_21 : decode cX6_cheapest 21 = .ok (.iconst 2, 1) := by decide +kernel
theorem dX6_cheapest_22 : decode cX6_cheapest 22 = .ok (.goto 4, 3) := by decide +kernel
theorem dX6_cheapest_25 : decode cX6_cheapest 25 = .ok (.iconst 0, 1) := by decide +kernel
theorem dX6_cheapest_26 : decode cX6_cheapest 26 = .ok (.putfield 19, 3) := by decide +kernel
theorem dX6_cheapest_29 : decode cX6_cheapest 29 = .ok (.aload_n 0, 1) := by decide +kernel
theorem dX6_cheapest_30 : decode cX6_cheapest 30 = .ok (.getfield 19, 3) := by decide +kernel
theorem dX6_cheapest_33 : decode cX6_cheapest 33 = .ok (.ifCond .le 5, 3) := by decide +kernel
theorem dX6_cheapest_36 : decode cX6_cheapest 36 = .ok (.iconst 0, 1) := by decide +kernel
theorem dX6_cheapest_37 : decode cX6_cheapest 37 = .ok (.ireturn, 1) := by decide +kernel
theorem dX6_cheapest_38 : decode cX6_cheapest 38 = .ok (.iconst (-1), 1) := by decide +kernel
theorem dX6_cheapest_39 : decode cX6_cheapest 39 = .ok (.istore 4, 2) := by decide +kernel
theorem dX6_cheapest_41 : decode cX6_cheapest 41 = .ok (.iconst 0, 1) := by decide +kernel
theorem dX6_cheapest_42 : decode cX6_cheapest 42 = .ok (.istore 5, 2) := by decide +kernel
theorem dX6_cheapest_44 : decode cX6_cheapest 44 = .ok (.iconst 0, 1) := by decide +kernel
theorem dX6_cheapest_45 : decode cX6_cheapest 45 = .ok (.istore 6, 2) := by decide +kernel
theorem dX6_cheapest_47 : decode cX6_cheapest 47 = .ok (.iload 6, 2) := by decide +kernel
theorem dX6_cheapest_49 : decode cX6_cheapest 49 = .ok (.aload_n 0, 1) := by decide +kernel
theorem dX6_cheapest_50 : decode cX6_cheapest 50 = .ok (.getfield 7, 3) := by decide +kernel
theorem dX6_cheapest_53 : decode cX6_cheapest 53 = .ok (.iconst 0, 1) := by decide +kernel
theorem dX6_cheapest_54 : decode cX6_cheapest 54 = .ok (.iaload, 1) := by decide +kernel
theorem dX6_cheapest_55 : decode cX6_cheapest 55 = .ok (.if_icmp .ge 94, 3) := by decide +kernel
theorem dX6_cheapest_58 : decode cX6_cheapest 58 = .ok (.iconst 1, 1) := by decide +kernel
theorem dX6_cheapest_59 : decode cX6_cheapest 59 = .ok (.istore 7, 2) := by decide +kernel
theorem dX6_cheapest_61 : decode cX6_cheapest 61 = .ok (.iconst 0, 1) := by decide +kernel
theorem dX6_cheapest_62 : decode cX6_cheapest 62 = .ok (.istore 8, 2) := by decide +kernel
theorem dX6_cheapest_64 : decode cX6_cheapest 64 = .ok (.iload_n 2, 1) := by decide +kernel
theorem dX6_cheapest_65 : decode cX6_cheapest 65 = .ok (.istore 9, 2) := by decide +kernel
theorem dX6_cheapest_67 : decode cX6_cheapest 67 = .ok (.iload 9, 2) := by decide +kernel
theorem dX6_cheapest_69 : decode cX6_cheapest 69 = .ok (.iload_n 3, 1) := by decide +kernel
theorem dX6_cheapest_70 : decode cX6_cheapest 70 = .ok (.if_icmp .gt 47, 3) := by decide +kernel
theorem dX6_cheapest_73 : decode cX6_cheapest 73 = .ok (.iload 7, 2) := by decide +kernel
theorem dX6_cheapest_75 : decode cX6_cheapest 75 = .ok (.ifCond .eq 42, 3) := by decide +kernel
theorem dX6_cheapest_78 : decode cX6_cheapest 78 = .ok (.aload_n 0, 1) := by decide +kernel
theorem dX6_cheapest_79 : decode cX6_cheapest 79 = .ok (.iload_n 1, 1) := by decide +kernel
theorem dX6_cheapest_80 : decode cX6_cheapest 80 = .ok (.iload 6, 2) := by decide +kernel
theorem dX6_cheapest_82 : decode cX6_cheapest 82 = .ok (.iload 9, 2) := by decide +kernel
theorem dX6_cheapest_84 : decode cX6_cheapest 84 = .ok (.invokevirtual 117, 3) := by decide +kernel
theorem dX6_cheapest_87 : decode cX6_cheapest 87 = .ok (.ifCond .ne 7, 3) := by decide +kernel
theorem dX6_cheapest_90 : decode cX6_cheapest 90 = .ok (.iconst 1, 1) := by decide +kernel
theorem dX6_cheapest_91 : decode cX6_cheapest 91 = .ok (.goto 4, 3) := by decide +kernel
theorem dX6_cheapest_94 : decode cX6_cheapest 94 = .ok (.iconst 0, 1) := by decide +kernel
theorem dX6_cheapest_95 : decode cX6_cheapest 95 = .ok (.istore 7, 2) := by decide +kernel
theorem dX6_cheapest_97 : decode cX6_cheapest 97 = .ok (.iload 8, 2) := by decide +kernel
theorem dX6_cheapest_99 : decode cX6_cheapest 99 = .ok (.aload_n 0, 1) := by decide +kernel
theorem dX6_cheapest_100 : decode cX6_cheapest 100 = .ok (.iload_n 1, 1) := by decide +kernel
theorem dX6_cheapest_101 : decode cX6_cheapest 101 = .ok (.iload 6, 2) := by decide +kernel
theorem dX6_cheapest_103 : decode cX6_cheapest 103 = .ok (.iload 9, 2) := by decide +kernel
theorem dX6_cheapest_105 : decode cX6_cheapest 105 = .ok (.invokevirtual 126, 3) := by decide +kernel
theorem dX6_cheapest_108 : decode cX6_cheapest 108 = .ok (.iadd, 1) := by decide +kernel
theorem dX6_cheapest_109 : decode cX6_cheapest 109 = .ok (.istore 8, 2) := by decide +kernel
theorem dX6_cheapest_111 : decode cX6_cheapest 111 = .ok (.iinc 9 1, 3) := by decide +kernel
theorem dX6_cheapest_114 : decode cX6_cheapest 114 = .ok (.goto (-47), 3) := by decide +kernel
theorem dX6_cheapest_117 : decode cX6_cheapest 117 = .ok (.iload 7, 2) := by decide +kernel
theorem dX6_cheapest_119 : decode cX6_cheapest 119 = .ok (.ifCond .eq 24, 3) := by decide +kernel
theorem dX6_cheapest_122 : decode cX6_cheapest 122 = .ok (.iload 4, 2) := by decide +kernel
theorem dX6_cheapest_124 : decode cX6_cheapest 124 = .ok (.iconst (-1), 1) := by decide +kernel
theorem dX6_cheapest_125 : decode cX6_cheapest 125 = .ok (.if_icmp .eq 10, 3) := by decide +kernel
theorem dX6_cheapest_128 : decode cX6_cheapest 128 = .ok (.iload 8, 2) := by decide +kernel
theorem dX6_cheapest_130 : decode cX6_cheapest 130 = .ok (.iload 5, 2) := by decide +kernel
theorem dX6_cheapest_132 : decode cX6_cheapest 132 = .ok (.if_icmp .ge 11, 3) := by decide +kernel
theorem dX6_cheapest_135 : decode cX6_cheapest 135 = .ok (.iload 6, 2) := by decide +kernel
theorem dX6_cheapest_137 : decode cX6_cheapest 137 = .ok (.istore 4, 2) := by decide +kernel
theorem dX6_cheapest_139 : decode cX6_cheapest 139 = .ok (.iload 8, 2) := by decide +kernel
theorem dX6_cheapest_141 : decode cX6_cheapest 141 = .ok (.istore 5, 2) := by decide +kernel
theorem dX6_cheapest_143 : decode cX6_cheapest 143 = .ok (.iinc 6 1, 3) := by decide +kernel
theorem dX6_cheapest_146 : decode cX6_cheapest 146 = .ok (.goto (-99), 3) := by decide +kernel
theorem dX6_cheapest_149 : decode cX6_cheapest 149 = .ok (.iload 4, 2) := by decide +kernel
theorem dX6_cheapest_151 : decode cX6_cheapest 151 = .ok (.ireturn, 1) := by decide +kernel
set_option maxRecDepth 20000 in
theorem ggX6_shimsNeeded_X6_isDay : GoodIn wsX6_shimsNeeded wsX6_isDay := goodIn_r _ [6, 7, 8, 5, 9] (by decide +kernel) (by decide +kernel)
set_option maxRecDepth 20000 in
theorem gX6_shimsNeeded_X6_isDay : GoodIn wsX6_shimsNeeded (va_wsS RX6 51 yX6_isDay wsX6_isDay) := goodIn_app (goodIn_of _ (by decide +kernel)) ggX6_shimsNeeded_X6_isDay
set_option maxRecDepth 20000 in
theorem ggX6_shimsNeeded_X6_ofUser : GoodIn wsX6_shimsNeeded wsX6_ofUser := goodIn_r _ [13, 2, 41, 42, 43, 44, 45, 46, 47, 48, 49, 50, 51, 52, 53, 54] (by decide +kernel) (by decide +kernel)
set_option maxRecDepth 20000 in
theorem gX6_shimsNeeded_X6_ofUser : GoodIn wsX6_shimsNeeded (wsV RX6 61 RX6 yX6_ofUser wsX6_ofUser) := goodIn_app (goodIn_of _ (by decide +kernel)) ggX6_shimsNeeded_X6_ofUser
set_option maxRecDepth 20000 in
theorem ggX6_shimsNeeded_X6_has : GoodIn wsX6_shimsNeeded wsX6_has := goodIn_r _ [16] (by decide +kernel) (by decide +kernel)
set_option maxRecDepth 20000 in
theorem gX6_shimsNeeded_X6_has : GoodIn wsX6_shimsNeeded (va_wsS RX6 44 yX6_has wsX6_has) := goodIn_app (goodIn_of _ (by decide +kernel)) ggX6_shimsNeeded_X6_has
set_option maxRecDepth 20000 in
theorem ggX6_shimsNeeded_X6_on : GoodIn wsX6_shimsNeeded wsX6_on := goodIn_r _ [20, 10, 11, 12, 5, 13, 2, 41, 42, 43, 44, 45, 46, 47, 48, 49, 50, 51, 52, 53, 54] (by decide +kernel) (by decide +kernel)
set_option maxRecDepth 20000 in
theorem gX6_shimsNeeded_X6_on : GoodIn wsX6_shimsNeeded (wsV RX6 105 RX6 yX6_on wsX6_on) := goodIn_app (goodIn_of _ (by decide +kernel)) ggX6_shimsNeeded_X6_on
set_option maxRecDepth 20000 in
theorem ggX6_shimsNeeded_X6_servedOn : GoodIn wsX6_shimsNeeded wsX6_servedOn := goodIn_r _ [24, 2, 25, 26, 27, 5, 28, 29, 30, 31, 32, 14, 15, 16, 33, 34, 35, 36, 37, 38, 39, 40, 7, 8, 9, 41, 42, 43, 44, 45, 46, 47, 48, 49, 50, 51, 52, 53, 54] (by decide +kernel) (by decide +kernel)
set_option maxRecDepth 20000 in
theorem gX6_shimsNeeded_X6_servedOn : GoodIn wsX6_shimsNeeded (wsV RX6 114 RX6 yX6_servedOn wsX6_servedOn) := goodIn_app (goodIn_of _ (by decide +kernel)) ggX6_shimsNeeded_X6_servedOn
theorem dX6_shimsNeeded_0 : decode cX6_shimsNeeded 0 = .ok (.aload_n 0, 1) := by decide +kernel
theorem dX6_shimsNeeded_1 : decode cX6_shimsNeeded 1 = .ok (.iload_n 1, 1) := by decide +kernel
theorem dX6_shimsNeeded_2 : decode cX6_shimsNeeded 2 = .ok (.invokestatic 51, 3) := by decide +kernel
theorem dX6_shimsNeeded_5 : decode cX6_shimsNeeded 5 = .ok (.ifCond .eq 7, 3) := by decide +kernel
theorem dX6_shimsNeeded_8 : decode cX6_shimsNeeded 8 = .ok (.iconst 0, 1) := by decide +kernel
theorem dX6_shimsNeeded_9 : decode cX6_shimsNeeded 9 = .ok (.goto 4, 3) := by decide +kernel
theorem dX6_shimsNeeded_12 : decode cX6_shimsNeeded 12 = .ok (.iconst 1, 1) := by decide +kernel
theorem dX6_shimsNeeded_13 : decode cX6_shimsNeeded 13 = .ok (.putfield 19, 3) := by decide +kernel
theorem dX6_shimsNeeded_16 : decode cX6_shimsNeeded 16 = .ok (.aload_n 0, 1) := by decide +kernel
theorem dX6_shimsNeeded_17 : decode cX6_shimsNeeded 17 = .ok (.getfield 19, 3) := by decide +kernel
theorem dX6_shimsNeeded_20 : decode cX6_shimsNeeded 20 = .ok (.ifCond .le 5, 3) := by decide +kernel
theorem dX6_shimsNeeded_23 : decode cX6_shimsNeeded 23 = .ok (.iconst 0, 1) := by decide +kernel
theorem dX6_shimsNeeded_24 : decode cX6_shimsNeeded 24 = .ok (.ireturn, 1) := by decide +kernel
theorem dX6_shimsNeeded_25 : decode cX6_shimsNeeded 25 = .ok (.iconst 0, 1) := by decide +kernel
theorem dX6_shimsNeeded_26 : decode cX6_shimsNeeded 26 = .ok (.istore_n 2, 1) := by decide +kernel
theorem dX6_shimsNeeded_27 : decode cX6_shimsNeeded 27 = .ok (.iconst 0, 1) := by decide +kernel
theorem dX6_shimsNeeded_28 : decode cX6_shimsNeeded 28 = .ok (.istore_n 3, 1) := by decide +kernel
theorem dX6_shimsNeeded_29 : decode cX6_shimsNeeded 29 = .ok (.iload_n 3, 1) := by decide +kernel
theorem dX6_shimsNeeded_30 : decode cX6_shimsNeeded 30 = .ok (.aload_n 0, 1) := by decide +kernel
theorem dX6_shimsNeeded_31 : decode cX6_shimsNeeded 31 = .ok (.getfield 7, 3) := by decide +kernel
theorem dX6_shimsNeeded_34 : decode cX6_shimsNeeded 34 = .ok (.iconst 0, 1) := by decide +kernel
theorem dX6_shimsNeeded_35 : decode cX6_shimsNeeded 35 = .ok (.iaload, 1) := by decide +kernel
theorem dX6_shimsNeeded_36 : decode cX6_shimsNeeded 36 = .ok (.aload_n 0, 1) := by decide +kernel
theorem dX6_shimsNeeded_37 : decode cX6_shimsNeeded 37 = .ok (.getfield 7, 3) := by decide +kernel
theorem dX6_shimsNeeded_40 : decode cX6_shimsNeeded 40 = .ok (.iconst 1, 1) := by decide +kernel
theorem dX6_shimsNeeded_41 : decode cX6_shimsNeeded 41 = .ok (.iaload, 1) := by decide +kernel
theorem dX6_shimsNeeded_42 : decode cX6_shimsNeeded 42 = .ok (.imul, 1) := by decide +kernel
theorem dX6_shimsNeeded_43 : decode cX6_shimsNeeded 43 = .ok (.if_icmp .ge 117, 3) := by decide +kernel
theorem dX6_shimsNeeded_46 : decode cX6_shimsNeeded 46 = .ok (.iload_n 3, 1) := by decide +kernel
theorem dX6_shimsNeeded_47 : decode cX6_shimsNeeded 47 = .ok (.aload_n 0, 1) := by decide +kernel
theorem dX6_shimsNeeded_48 : decode cX6_shimsNeeded 48 = .ok (.getfield 7, 3) := by decide +kernel
theorem dX6_shimsNeeded_51 : decode cX6_shimsNeeded 51 = .ok (.iconst 1, 1) := by decide +kernel
theorem dX6_shimsNeeded_52 : decode cX6_shimsNeeded 52 = .ok (.iaload, 1) := by decide +kernel
theorem dX6_shimsNeeded_53 : decode cX6_shimsNeeded 53 = .ok (.idiv, 1) := by decide +kernel
theorem dX6_shimsNeeded_54 : decode cX6_shimsNeeded 54 = .ok (.istore 4, 2) := by decide +kernel
theorem dX6_shimsNeeded_56 : decode cX6_shimsNeeded 56 = .ok (.iload_n 3, 1) := by decide +kernel
theorem dX6_shimsNeeded_57 : decode cX6_shimsNeeded 57 = .ok (.aload_n 0, 1) := by decide +kernel
theorem dX6_shimsNeeded_58 : decode cX6_shimsNeeded 58 = .ok (.getfield 7, 3) := by decide +kernel
theorem dX6_shimsNeeded_61 : decode cX6_shimsNeeded 61 = .ok (.iconst 1, 1) := by decide +kernel
theorem dX6_shimsNeeded_62 : decode cX6_shimsNeeded 62 = .ok (.iaload, 1) := by decide +kernel
theorem dX6_shimsNeeded_63 : decode cX6_shimsNeeded 63 = .ok (.irem, 1) := by decide +kernel
theorem dX6_shimsNeeded_64 : decode cX6_shimsNeeded 64 = .ok (.istore 5, 2) := by decide +kernel
theorem dX6_shimsNeeded_66 : decode cX6_shimsNeeded 66 = .ok (.iconst 0, 1) := by decide +kernel
theorem dX6_shimsNeeded_67 : decode cX6_shimsNeeded 67 = .ok (.istore 6, 2) := by decide +kernel
theorem dX6_shimsNeeded_69 : decode cX6_shimsNeeded 69 = .ok (.iconst 0, 1) := by decide +kernel
theorem dX6_shimsNeeded_70 : decode cX6_shimsNeeded 70 = .ok (.istore 7, 2) := by decide +kernel
theorem dX6_shimsNeeded_72 : decode cX6_shimsNeeded 72 = .ok (.iload 7, 2) := by decide +kernel
theorem dX6_shimsNeeded_74 : decode cX6_shimsNeeded 74 = .ok (.aload_n 0, 1) := by decide +kernel
theorem dX6_shimsNeeded_75 : decode cX6_shimsNeeded 75 = .ok (.getfield 7, 3) := by decide +kernel
theorem dX6_shimsNeeded_78 : decode cX6_shimsNeeded 78 = .ok (.iconst 2, 1) := by decide +kernel
theorem dX6_shimsNeeded_79 : decode cX6_shimsNeeded 79 = .ok (.iaload, 1) := by decide +kernel
theorem dX6_shimsNeeded_80 : decode cX6_shimsNeeded 80 = .ok (.if_icmp .ge 61, 3) := by decide +kernel
theorem dX6_shimsNeeded_83 : decode cX6_shimsNeeded 83 = .ok (.iload 6, 2) := by decide +kernel
theorem dX6_shimsNeeded_85 : decode cX6_shimsNeeded 85 = .ok (.ifCond .ne 43, 3) := by decide +kernel
theorem dX6_shimsNeeded_88 : decode cX6_shimsNeeded 88 = .ok (.aload_n 0, 1) := by decide +kernel
theorem dX6_shimsNeeded_89 : decode cX6_shimsNeeded 89 = .ok (.iload 7, 2) := by decide +kernel
theorem dX6_shimsNeeded_91 : decode cX6_shimsNeeded 91 = .ok (.iconst 1, 1) := by decide +kernel
theorem dX6_shimsNeeded_92 : decode cX6_shimsNeeded 92 = .ok (.invokevirtual 61, 3) := by decide +kernel
theorem dX6_shimsNeeded_95 : decode cX6_shimsNeeded 95 = .ok (.iload 5, 2) := by decide +kernel
theorem dX6_shimsNeeded_97 : decode cX6_shimsNeeded 97 = .ok (.invokestatic 44, 3) := by decide +kernel
theorem dX6_shimsNeeded_100 : decode cX6_shimsNeeded 100 = .ok (.ifCond .eq 32, 3) := by decide +kernel
theorem dX6_shimsNeeded_103 : decode cX6_shimsNeeded 103 = .ok (.aload_n 0, 1) := by decide +kernel
theorem dX6_shimsNeeded_104 : decode cX6_shimsNeeded 104 = .ok (.iload 7, 2) := by decide +kernel
theorem dX6_shimsNeeded_106 : decode cX6_shimsNeeded 106 = .ok (.iload_n 1, 1) := by decide +kernel
theorem dX6_shimsNeeded_107 : decode cX6_shimsNeeded 107 = .ok (.invokevirtual 105, 3) := by decide +kernel
theorem dX6_shimsNeeded_110 : decode cX6_shimsNeeded 110 = .ok (.iload 4, 2) := by decide +kernel
theorem dX6_shimsNeeded_112 : decode cX6_shimsNeeded 112 = .ok (.if_icmp .ne 20, 3) := by decide +kernel
theorem dX6_shimsNeeded_115 : decode cX6_shimsNeeded 115 = .ok (.aload_n 0, 1) := by decide +kernel
theorem dX6_shimsNeeded_116 : decode cX6_shimsNeeded 116 = .ok (.iload 4, 2) := by decide +kernel
theorem dX6_shimsNeeded_118 : decode cX6_shimsNeeded 118 = .ok (.iload 5, 2) := by decide +kernel
theorem dX6_shimsNeeded_120 : decode cX6_shimsNeeded 120 = .ok (.iload_n 1, 1) := by decide +kernel
theorem dX6_shimsNeeded_121 : decode cX6_shimsNeeded 121 = .ok (.invokevirtual 114, 3) := by decide +kernel
theorem dX6_shimsNeeded_124 : decode cX6_shimsNeeded 124 = .ok (.iconst 4, 1) := by decide +kernel
theorem dX6_shimsNeeded_125 : decode cX6_shimsNeeded 125 = .ok (.if_icmp .ne 7, 3) := by decide +kernel
theorem dX6_shimsNeeded_128 : decode cX6_shimsNeeded 128 = .ok (.iconst 1, 1) := by decide +kernel
theorem dX6_shimsNeeded_129 : decode cX6_shimsNeeded 129 = .ok (.goto 4, 3) := by decide +kernel
theorem dX6_shimsNeeded_132 : decode cX6_shimsNeeded 132 = .ok (.iconst 0, 1) := by decide +kernel
theorem dX6_shimsNeeded_133 : decode cX6_shimsNeeded 133 = .ok (.istore 6, 2) := by decide +kernel
theorem dX6_shimsNeeded_135 : decode cX6_shimsNeeded 135 = .ok (.iinc 7 1, 3) := by decide +kernel
theorem dX6_shimsNeeded_138 : decode cX6_shimsNeeded 138 = .ok (.goto (-66), 3) := by decide +kernel
theorem dX6_shimsNeeded_141 : decode cX6_shimsNeeded 141 = .ok (.iload_n 2, 1) := by decide +kernel
theorem dX6_shimsNeeded_142 : decode cX6_shimsNeeded 142 = .ok (.iload 6, 2) := by decide +kernel
theorem dX6_shimsNeeded_144 : decode cX6_shimsNeeded 144 = .ok (.ifCond .eq 7, 3) := by decide +kernel
theorem dX6_shimsNeeded_147 : decode cX6_shimsNeeded 147 = .ok (.iconst 1, 1) := by decide +kernel
theorem dX6_shimsNeeded_148 : decode cX6_shimsNeeded 148 = .ok (.goto 4, 3) := by decide +kernel
theorem dX6_shimsNeeded_151 : decode cX6_shimsNeeded 151 = .ok (.iconst 0, 1) := by decide +kernel
theorem dX6_shimsNeeded_152 : decode cX6_shimsNeeded 152 = .ok (.iadd, 1) := by decide +kernel
theorem dX6_shimsNeeded_153 : decode cX6_shimsNeeded 153 = .ok (.istore_n 2, 1) := by decide +kernel
theorem dX6_shimsNeeded_154 : decode cX6_shimsNeeded 154 = .ok (.iinc 3 1, 3) := by decide +kernel
theorem dX6_shimsNeeded_157 : decode cX6_shimsNeeded 157 = .ok (.goto (-128), 3) := by decide +kernel
theorem dX6_shimsNeeded_160 : decode cX6_shimsNeeded 160 = .ok (.iload_n 2, 1) := by decide +kernel
theorem dX6_shimsNeeded_161 : decode cX6_shimsNeeded 161 = .ok (.ireturn, 1) := by decide +kernel
set_option maxRecDepth 20000 in
theorem ggX6_share_X6_isDay : GoodIn wsX6_share wsX6_isDay := goodIn_r _ [6, 7, 8, 5, 9] (by decide +kernel) (by decide +kernel)
set_option maxRecDepth 20000 in
theorem gX6_share_X6_isDay : GoodIn wsX6_share (va_wsS RX6 51 yX6_isDay wsX6_isDay) := goodIn_app (goodIn_of _ (by decide +kernel)) ggX6_share_X6_isDay
set_option maxRecDepth 20000 in
theorem ggX6_share_X6_uses : GoodIn wsX6_share wsX6_uses := goodIn_r _ [13, 2, 14, 15, 16, 5, 17, 18, 19, 20, 52, 53, 54, 55, 56, 57, 58, 59, 60, 61, 62, 63, 64, 65] (by decide +kernel) (by decide +kernel)
set_option maxRecDepth 20000 in
theorem gX6_share_X6_uses : GoodIn wsX6_share (wsV RX6 138 RX6 yX6_uses wsX6_uses) := goodIn_app (goodIn_of _ (by decide +kernel)) ggX6_share_X6_uses
set_option maxRecDepth 20000 in
theorem ggX6_share_X6_on : GoodIn wsX6_share wsX6_on := goodIn_r _ [24, 14, 15, 16, 5, 17, 2, 52, 53, 54, 55, 56, 57, 58, 59, 60, 61, 62, 63, 64, 65] (by decide +kernel) (by decide +kernel)
set_option maxRecDepth 20000 in
theorem gX6_share_X6_on : GoodIn wsX6_share (wsV RX6 105 RX6 yX6_on wsX6_on) := goodIn_app (goodIn_of _ (by decide +kernel)) ggX6_share_X6_on
set_option maxRecDepth 20000 in
theorem ggX6_share_X6_missingOn : GoodIn wsX6_share wsX6_missingOn := goodIn_r _ [28, 2, 14, 15, 16, 5, 17, 29, 30, 31, 32, 33, 34, 35, 36, 37, 38, 39, 40, 41, 42, 43, 44, 45, 46, 47, 48, 49, 50, 51, 7, 8, 9, 52, 53, 54, 55, 56, 57, 58, 59, 60, 61, 62, 63, 64, 65] (by decide +kernel) (by decide +kernel)
set_option maxRecDepth 20000 in
theorem gX6_share_X6_missingOn : GoodIn wsX6_share (wsV RX6 117 RX6 yX6_missingOn wsX6_missingOn) := goodIn_app (goodIn_of _ (by decide +kernel)) ggX6_share_X6_missingOn
set_option maxRecDepth 20000 in
theorem ggX6_share_X6_bits : GoodIn wsX6_share wsX6_bits := goodIn_r _ [20] (by decide +kernel) (by decide +kernel)
set_option maxRecDepth 20000 in
theorem gX6_share_X6_bits : GoodIn wsX6_share (va_wsS RX6 135 yX6_bits wsX6_bits) := goodIn_app (goodIn_of _ (by decide +kernel)) ggX6_share_X6_bits
theorem dX6_share_0 : decode cX6_share 0 = .ok (.aload_n 0, 1) := by decide +kernel
theorem dX6_share_1 : decode cX6_share 1 = .ok (.iload_n 1, 1) := by decide +kernel
theorem dX6_share_2 : decode cX6_share 2 = .ok (.invokestatic 51, 3) := by decide +kernel
theorem dX6_share_5 : decode cX6_share 5 = .ok (.ifCond .eq 7, 3) := by decide +kernel
theorem dX6_share_8 : decode cX6_share 8 = .ok (.iconst 0, 1) := by decide +kernel
theorem dX6_share_9 : decode cX6_share 9 = .ok (.goto 4, 3) := by decide +kernel
theorem dX6_share_12 : decode cX6_share 12 = .ok (.iconst 1, 1) := by decide +kernel
theorem dX6_share_13 : decode cX6_share 13 = .ok (.putfield 19, 3) := by decide +kernel
theorem dX6_share_16 : decode cX6_share 16 = .ok (.aload_n 0, 1) := by decide +kernel
theorem dX6_share_17 : decode cX6_share 17 = .ok (.invokevirtual 138, 3) := by decide +kernel
theorem dX6_share_20 : decode cX6_share 20 = .ok (.istore_n 2, 1) := by decide +kernel
theorem dX6_share_21 : decode cX6_share 21 = .ok (.aload_n 0, 1) := by decide +kernel
theorem dX6_share_22 : decode cX6_share 22 = .ok (.getfield 19, 3) := by decide +kernel
theorem dX6_share_25 : decode cX6_share 25 = .ok (.ifCond .gt 7, 3) := by decide +kernel
theorem dX6_share_28 : decode cX6_share 28 = .ok (.iload_n 2, 1) := by decide +kernel
theorem dX6_share_29 : decode cX6_share 29 = .ok (.ifCond .ne 16, 3) := by decide +kernel
theorem dX6_share_32 : decode cX6_share 32 = .ok (.aload_n 0, 1) := by decide +kernel
theorem dX6_share_33 : decode cX6_share 33 = .ok (.getfield 19, 3) := by decide +kernel
theorem dX6_share_36 : decode cX6_share 36 = .ok (.ifCond .le 7, 3) := by decide +kernel
theorem dX6_share_39 : decode cX6_share 39 = .ok (.dconst 0, 1) := by decide +kernel
theorem dX6_share_40 : decode cX6_share 40 = .ok (.goto 4, 3) := by decide +kernel
theorem dX6_share_43 : decode cX6_share 43 = .ok (.dconst 1, 1) := by decide +kernel
theorem dX6_share_44 : decode cX6_share 44 = .ok (.dreturn, 1) := by decide +kernel
theorem dX6_share_45 : decode cX6_share 45 = .ok (.iconst 0, 1) := by decide +kernel
theorem dX6_share_46 : decode cX6_share 46 = .ok (.istore_n 3, 1) := by decide +kernel
theorem dX6_share_47 : decode cX6_share 47 = .ok (.iconst 0, 1) := by decide +kernel
theorem dX6_share_48 : decode cX6_share 48 = .ok (.istore 4, 2) := by decide +kernel
theorem dX6_share_50 : decode cX6_share 50 = .ok (.iload 4, 2) := by decide +kernel
theorem dX6_share_52 : decode cX6_share 52 = .ok (.aload_n 0, 1) := by decide +kernel
theorem dX6_share_53 : decode cX6_share 53 = .ok (.getfield 7, 3) := by decide +kernel
theorem dX6_share_56 : decode cX6_share 56 = .ok (.iconst 2, 1) := by decide +kernel
theorem dX6_share_57 : decode cX6_share 57 = .ok (.iaload, 1) := by decide +kernel
theorem dX6_share_58 : decode cX6_share 58 = .ok (.if_icmp .ge 29, 3) := by decide +kernel
theorem dX6_share_61 : decode cX6_share 61 = .ok (.iload_n 3, 1) := by decide +kernel
theorem dX6_share_62 : decode cX6_share 62 = .ok (.aload_n 0, 1) := by decide +kernel
theorem dX6_share_63 : decode cX6_share 63 = .ok (.iload 4, 2) := by decide +kernel
theorem dX6_share_65 : decode cX6_share 65 = .ok (.aload_n 0, 1) := by decide +kernel
theorem dX6_share_66 : decode cX6_share 66 = .ok (.iload 4, 2) := by decide +kernel
theorem dX6_share_68 : decode cX6_share 68 = .ok (.iload_n 1, 1) := by decide +kernel
theorem dX6_share_69 : decode cX6_share 69 = .ok (.invokevirtual 105, 3) := by decide +kernel
theorem dX6_share_72 : decode cX6_share 72 = .ok (.iload_n 1, 1) := by decide +kernel
theorem dX6_share_73 : decode cX6_share 73 = .ok (.invokevirtual 117, 3) := by decide +kernel
theorem dX6_share_76 : decode cX6_share 76 = .ok (.invokestatic 135, 3) := by decide +kernel
theorem dX6_share_79 : decode cX6_share 79 = .ok (.iadd, 1) := by decide +kernel
theorem dX6_share_80 : decode cX6_share 80 = .ok (.istore_n 3, 1) := by decide +kernel
theorem dX6_share_81 : decode cX6_share 81 = .ok (.iinc 4 1, 3) := by decide +kernel
theorem dX6_share_84 : decode cX6_share 84 = .ok (.goto (-34), 3) := by decide +kernel
theorem dX6_share_87 : decode cX6_share 87 = .ok (.iload_n 2, 1) := by decide +kernel
theorem dX6_share_88 : decode cX6_share 88 = .ok (.iload_n 3, 1) := by decide +kernel
theorem dX6_share_89 : decode cX6_share 89 = .ok (.isub, 1) := by decide +kernel
theorem dX6_share_90 : decode cX6_share 90 = .ok (.i2d, 1) := by decide +kernel
theorem dX6_share_91 : decode cX6_share 91 = .ok (.iload_n 2, 1) := by decide +kernel
theorem dX6_share_92 : decode cX6_share 92 = .ok (.i2d, 1) := by decide +kernel
theorem dX6_share_93 : decode cX6_share 93 = .ok (.ddiv, 1) := by decide +kernel
theorem dX6_share_94 : decode cX6_share 94 = .ok (.dreturn, 1) := by decide +kernel
set_option maxRecDepth 20000 in
theorem ggX6_append_X6_in : GoodIn wsX6_append wsX6_in := goodIn_r _ [7] (by decide +kernel) (by decide +kernel)
set_option maxRecDepth 20000 in
theorem gX6_append_X6_in : GoodIn wsX6_append (va_wsS RX6 23 yX6_in wsX6_in) := goodIn_app (goodIn_of _ (by decide +kernel)) ggX6_append_X6_in
theorem dX6_append_0 : decode cX6_append 0 = .ok (.aload_n 0, 1) := by decide +kernel
theorem dX6_append_1 : decode cX6_append 1 = .ok (.iload_n 1, 1) := by decide +kernel
theorem dX6_append_2 : decode cX6_append 2 = .ok (.iconst 0, 1) := by decide +kernel
theorem dX6_append_3 : decode cX6_append 3 = .ok (.bipush 127, 2) := by decide +kernel
theorem dX6_append_5 : decode cX6_append 5 = .ok (.invokestatic 23, 3) := by decide +kernel
theorem dX6_append_8 : decode cX6_append 8 = .ok (.ifCond .ne 7, 3) := by decide +kernel
theorem dX6_append_11 : decode cX6_append 11 = .ok (.iconst 1, 1) := by decide +kernel
theorem dX6_append_12 : decode cX6_append 12 = .ok (.goto 17, 3) := by decide +kernel
theorem dX6_append_15 : decode cX6_append 15 = .ok (.aload_n 0, 1) := by decide +kernel
theorem dX6_append_16 : decode cX6_append 16 = .ok (.getfield 148, 3) := by decide +kernel
theorem dX6_append_19 : decode cX6_append 19 = .ok (.bipush 100, 2) := by decide +kernel
theorem dX6_append_21 : decode cX6_append 21 = .ok (.if_icmp .ne 7, 3) := by decide +kernel
theorem dX6_append_24 : decode cX6_append 24 = .ok (.iconst 2, 1) := by decide +kernel
theorem dX6_append_25 : decode cX6_append 25 = .ok (.goto 4, 3) := by decide +kernel
theorem dX6_append_28 : decode cX6_append 28 = .ok (.iconst 0, 1) := by decide +kernel
theorem dX6_append_29 : decode cX6_append 29 = .ok (.putfield 19, 3) := by decide +kernel
theorem dX6_append_32 : decode cX6_append 32 = .ok (.aload_n 0, 1) := by decide +kernel
theorem dX6_append_33 : decode cX6_append 33 = .ok (.getfield 19, 3) := by decide +kernel
theorem dX6_append_36 : decode cX6_append 36 = .ok (.ifCond .le 5, 3) := by decide +kernel
theorem dX6_append_39 : decode cX6_append 39 = .ok (.iconst 0, 1) := by decide +kernel
theorem dX6_append_40 : decode cX6_append 40 = .ok (.ireturn, 1) := by decide +kernel
theorem dX6_append_41 : decode cX6_append 41 = .ok (.aload_n 0, 1) := by decide +kernel
theorem dX6_append_42 : decode cX6_append 42 = .ok (.getfield 16, 3) := by decide +kernel
theorem dX6_append_45 : decode cX6_append 45 = .ok (.aload_n 0, 1) := by decide +kernel
theorem dX6_append_46 : decode cX6_append 46 = .ok (.getfield 148, 3) := by decide +kernel
theorem dX6_append_49 : decode cX6_append 49 = .ok (.iload_n 1, 1) := by decide +kernel
theorem dX6_append_50 : decode cX6_append 50 = .ok (.iastore, 1) := by decide +kernel
theorem dX6_append_51 : decode cX6_append 51 = .ok (.aload_n 0, 1) := by decide +kernel
theorem dX6_append_52 : decode cX6_append 52 = .ok (.dup, 1) := by decide +kernel
theorem dX6_append_53 : decode cX6_append 53 = .ok (.getfield 148, 3) := by decide +kernel
theorem dX6_append_56 : decode cX6_append 56 = .ok (.iconst 1, 1) := by decide +kernel
theorem dX6_append_57 : decode cX6_append 57 = .ok (.iadd, 1) := by decide +kernel
theorem dX6_append_58 : decode cX6_append 58 = .ok (.putfield 148, 3) := by decide +kernel
theorem dX6_append_61 : decode cX6_append 61 = .ok (.aload_n 0, 1) := by decide +kernel
theorem dX6_append_62 : decode cX6_append 62 = .ok (.getfield 148, 3) := by decide +kernel
theorem dX6_append_65 : decode cX6_append 65 = .ok (.ireturn, 1) := by decide +kernel
theorem dX6_clearText_0 : decode cX6_clearText 0 = .ok (.aload_n 0, 1) := by decide +kernel
theorem dX6_clearText_1 : decode cX6_clearText 1 = .ok (.iconst 0, 1) := by decide +kernel
theorem dX6_clearText_2 : decode cX6_clearText 2 = .ok (.putfield 19, 3) := by decide +kernel
theorem dX6_clearText_5 : decode cX6_clearText 5 = .ok (.aload_n 0, 1) := by decide +kernel
theorem dX6_clearText_6 : decode cX6_clearText 6 = .ok (.getfield 148, 3) := by decide +kernel
theorem dX6_clearText_9 : decode cX6_clearText 9 = .ok (.istore_n 1, 1) := by decide +kernel
theorem dX6_clearText_10 : decode cX6_clearText 10 = .ok (.aload_n 0, 1) := by decide +kernel
theorem dX6_clearText_11 : decode cX6_clearText 11 = .ok (.iconst 0, 1) := by decide +kernel
theorem dX6_clearText_12 : decode cX6_clearText 12 = .ok (.putfield 148, 3) := by decide +kernel
theorem dX6_clearText_15 : decode cX6_clearText 15 = .ok (.iload_n 1, 1) := by decide +kernel
theorem dX6_clearText_16 : decode cX6_clearText 16 = .ok (.ireturn, 1) := by decide +kernel
theorem dX6_here_0 : decode cX6_here 0 = .ok (.aload_n 0, 1) := by decide +kernel
theorem dX6_here_1 : decode cX6_here 1 = .ok (.getfield 151, 3) := by decide +kernel
theorem dX6_here_4 : decode cX6_here 4 = .ok (.aload_n 0, 1) := by decide +kernel
theorem dX6_here_5 : decode cX6_here 5 = .ok (.getfield 148, 3) := by decide +kernel
theorem dX6_here_8 : decode cX6_here 8 = .ok (.if_icmp .ge 15, 3) := by decide +kernel
theorem dX6_here_11 : decode cX6_here 11 = .ok (.aload_n 0, 1) := by decide +kernel
theorem dX6_here_12 : decode cX6_here 12 = .ok (.getfield 16, 3) := by decide +kernel
theorem dX6_here_15 : decode cX6_here 15 = .ok (.aload_n 0, 1) := by decide +kernel
theorem dX6_here_16 : decode cX6_here 16 = .ok (.getfield 151, 3) := by decide +kernel
theorem dX6_here_19 : decode cX6_here 19 = .ok (.iaload, 1) := by decide +kernel
theorem dX6_here_20 : decode cX6_here 20 = .ok (.goto 4, 3) := by decide +kernel
theorem dX6_here_23 : decode cX6_here 23 = .ok (.iconst (-1), 1) := by decide +kernel
theorem dX6_here_24 : decode cX6_here 24 = .ok (.ireturn, 1) := by decide +kernel
set_option maxRecDepth 20000 in
theorem ggX6_sign_X6_here : GoodIn wsX6_sign wsX6_here := goodIn_r _ [7, 2, 8, 9, 10, 11, 12, 13, 14, 15, 16, 17, 18, 19, 20, 21, 22, 23] (by decide +kernel) (by decide +kernel)
set_option maxRecDepth 20000 in
theorem gX6_sign_X6_here : GoodIn wsX6_sign (wsV RX6 157 RX6 yX6_here wsX6_here) := goodIn_app (goodIn_of _ (by decide +kernel)) ggX6_sign_X6_here
theorem dX6_sign_0 : decode cX6_sign 0 = .ok (.aload_n 0, 1) := by decide +kernel
theorem dX6_sign_1 : decode cX6_sign 1 = .ok (.getfield 154, 3) := by decide +kernel
theorem dX6_sign_4 : decode cX6_sign 4 = .ok (.iconst (-1), 1) := by decide +kernel
theorem dX6_sign_5 : decode cX6_sign 5 = .ok (.if_icmp .ne 19, 3) := by decide +kernel
theorem dX6_sign_8 : decode cX6_sign 8 = .ok (.aload_n 0, 1) := by decide +kernel
theorem dX6_sign_9 : decode cX6_sign 9 = .ok (.invokevirtual 157, 3) := by decide +kernel
theorem dX6_sign_12 : decode cX6_sign 12 = .ok (.iload_n 1, 1) := by decide +kernel
theorem dX6_sign_13 : decode cX6_sign 13 = .ok (.if_icmp .eq 11, 3) := by decide +kernel
theorem dX6_sign_16 : decode cX6_sign 16 = .ok (.aload_n 0, 1) := by decide +kernel
theorem dX6_sign_17 : decode cX6_sign 17 = .ok (.aload_n 0, 1) := by decide +kernel
theorem dX6_sign_18 : decode cX6_sign 18 = .ok (.getfield 151, 3) := by decide +kernel
theorem dX6_sign_21 : decode cX6_sign 21 = .ok (.putfield 154, 3) := by decide +kernel
theorem dX6_sign_24 : decode cX6_sign 24 = .ok (.aload_n 0, 1) := by decide +kernel
theorem dX6_sign_25 : decode cX6_sign 25 = .ok (.dup, 1) := by decide +kernel
theorem dX6_sign_26 : decode cX6_sign 26 = .ok (.getfield 151, 3) := by decide +kernel
theorem dX6_sign_29 : decode cX6_sign 29 = .ok (.aload_n 0, 1) := by decide +kernel
theorem dX6_sign_30 : decode cX6_sign 30 = .ok (.getfield 154, 3) := by decide +kernel
theorem dX6_sign_33 : decode cX6_sign 33 = .ok (.iconst (-1), 1) := by decide +kernel
theorem dX6_sign_34 : decode cX6_sign 34 = .ok (.if_icmp .ne 7, 3) := by decide +kernel
theorem dX6_sign_37 : decode cX6_sign 37 = .ok (.iconst 1, 1) := by decide +kernel
theorem dX6_sign_38 : decode cX6_sign 38 = .ok (.goto 4, 3) := by decide +kernel
theorem dX6_sign_41 : decode cX6_sign 41 = .ok (.iconst 0, 1) := by decide +kernel
theorem dX6_sign_42 : decode cX6_sign 42 = .ok (.iadd, 1) := by decide +kernel
theorem dX6_sign_43 : decode cX6_sign 43 = .ok (.putfield 151, 3) := by decide +kernel
theorem dX6_sign_46 : decode cX6_sign 46 = .ok (.return_, 1) := by decide +kernel
set_option maxRecDepth 20000 in
theorem ggX6_digit_X6_here : GoodIn wsX6_digit wsX6_here := goodIn_r _ [8, 2, 9, 3, 13, 14, 15, 16, 17, 18, 19, 20, 21, 22, 23, 24, 25, 26] (by decide +kernel) (by decide +kernel)
set_option maxRecDepth 20000 in
theorem gX6_digit_X6_here : GoodIn wsX6_digit (wsV RX6 157 RX6 yX6_here wsX6_here) := goodIn_app (goodIn_of _ (by decide +kernel)) ggX6_digit_X6_here
set_option maxRecDepth 20000 in
theorem ggX6_digit_X6_in : GoodIn wsX6_digit wsX6_in := goodIn_r _ [12] (by decide +kernel) (by decide +kernel)
set_option maxRecDepth 20000 in
theorem gX6_digit_X6_in : GoodIn wsX6_digit (va_wsS RX6 23 yX6_in wsX6_in) := goodIn_app (goodIn_of _ (by decide +kernel)) ggX6_digit_X6_in
theorem dX6_digit_0 : decode cX6_digit 0 = .ok (.aload_n 0, 1) := by decide +kernel
theorem dX6_digit_1 : decode cX6_digit 1 = .ok (.getfield 154, 3) := by decide +kernel
theorem dX6_digit_4 : decode cX6_digit 4 = .ok (.iconst (-1), 1) := by decide +kernel
theorem dX6_digit_5 : decode cX6_digit 5 = .ok (.if_icmp .ne 27, 3) := by decide +kernel
theorem dX6_digit_8 : decode cX6_digit 8 = .ok (.aload_n 0, 1) := by decide +kernel
theorem dX6_digit_9 : decode cX6_digit 9 = .ok (.invokevirtual 157, 3) := by decide +kernel
theorem dX6_digit_12 : decode cX6_digit 12 = .ok (.bipush 48, 2) := by decide +kernel
theorem dX6_digit_14 : decode cX6_digit 14 = .ok (.bipush 48, 2) := by decide +kernel
theorem dX6_digit_16 : decode cX6_digit 16 = .ok (.iload_n 1, 1) := by decide +kernel
theorem dX6_digit_17 : decode cX6_digit 17 = .ok (.iadd, 1) := by decide +kernel
theorem dX6_digit_18 : decode cX6_digit 18 = .ok (.invokestatic 23, 3) := by decide +kernel
theorem dX6_digit_21 : decode cX6_digit 21 = .ok (.ifCond .ne 11, 3) := by decide +kernel
theorem dX6_digit_24 : decode cX6_digit 24 = .ok (.aload_n 0, 1) := by decide +kernel
theorem dX6_digit_25 : decode cX6_digit 25 = .ok (.aload_n 0, 1) := by decide +kernel
theorem dX6_digit_26 : decode cX6_digit 26 = .ok (.getfield 151, 3) := by decide +kernel
theorem dX6_digit_29 : decode cX6_digit 29 = .ok (.putfield 154, 3) := by decide +kernel
theorem dX6_digit_32 : decode cX6_digit 32 = .ok (.aload_n 0, 1) := by decide +kernel
theorem dX6_digit_33 : decode cX6_digit 33 = .ok (.getfield 154, 3) := by decide +kernel
theorem dX6_digit_36 : decode cX6_digit 36 = .ok (.iconst (-1), 1) := by decide +kernel
theorem dX6_digit_37 : decode cX6_digit 37 = .ok (.if_icmp .ne 18, 3) := by decide +kernel
theorem dX6_digit_40 : decode cX6_digit 40 = .ok (.aload_n 0, 1) := by decide +kernel
theorem dX6_digit_41 : decode cX6_digit 41 = .ok (.getfield 16, 3) := by decide +kernel
theorem dX6_digit_44 : decode cX6_digit 44 = .ok (.aload_n 0, 1) := by decide +kernel
theorem dX6_digit_45 : decode cX6_digit 45 = .ok (.getfield 151, 3) := by decide +kernel
theorem dX6_digit_48 : decode cX6_digit 48 = .ok (.iaload, 1) := by decide +kernel
theorem dX6_digit_49 : decode cX6_digit 49 = .ok (.bipush 48, 2) := by decide +kernel
theorem dX6_digit_51 : decode cX6_digit 51 = .ok (.isub, 1) := by decide +kernel
theorem dX6_digit_52 : decode cX6_digit 52 = .ok (.goto 4, 3) := by decide +kernel
theorem dX6_digit_55 : decode cX6_digit 55 = .ok (.iconst 0, 1) := by decide +kernel
theorem dX6_digit_56 : decode cX6_digit 56 = .ok (.istore_n 2, 1) := by decide +kernel
theorem dX6_digit_57 : decode cX6_digit 57 = .ok (.aload_n 0, 1) := by decide +kernel
theorem dX6_digit_58 : decode cX6_digit 58 = .ok (.dup, 1) := by decide +kernel
theorem dX6_digit_59 : decode cX6_digit 59 = .ok (.getfield 151, 3) := by decide +kernel
theorem dX6_digit_62 : decode cX6_digit 62 = .ok (.aload_n 0, 1) := by decide +kernel
theorem dX6_digit_63 : decode cX6_digit 63 = .ok (.getfield 154, 3) := by decide +kernel
theorem dX6_digit_66 : decode cX6_digit 66 = .ok (.iconst (-1), 1) := by decide +kernel
theorem dX6_digit_67 : decode cX6_digit 67 = .ok (.if_icmp .ne 7, 3) := by decide +kernel
theorem dX6_digit_70 : decode cX6_digit 70 = .ok (.iconst 1, 1) := by decide +kernel
theorem dX6_digit_71 : decode cX6_digit 71 = .ok (.goto 4, 3) := by decide +kernel
theorem dX6_digit_74 : decode cX6_digit 74 = .ok (.iconst 0, 1) := by decide +kernel
theorem dX6_digit_75 : decode cX6_digit 75 = .ok (.iadd, 1) := by decide +kernel
theorem dX6_digit_76 : decode cX6_digit 76 = .ok (.putfield 151, 3) := by decide +kernel
theorem dX6_digit_79 : decode cX6_digit 79 = .ok (.iload_n 2, 1) := by decide +kernel
theorem dX6_digit_80 : decode cX6_digit 80 = .ok (.ireturn, 1) := by decide +kernel
set_option maxRecDepth 20000 in
theorem ggX6_number_X6_digit : GoodIn wsX6_number wsX6_digit := goodIn_r _ [8, 2, 1, 3, 9, 10, 11, 7, 12, 13, 14, 15, 16, 17, 18, 19, 20, 21, 22, 23, 24, 25, 26, 27, 28, 29, 30] (by decide +kernel) (by decide +kernel)
set_option maxRecDepth 20000 in
theorem gX6_number_X6_digit : GoodIn wsX6_number (wsV RX6 160 RX6 yX6_digit wsX6_digit) := goodIn_app (goodIn_of _ (by decide +kernel)) ggX6_number_X6_digit
set_option maxRecDepth 20000 in
theorem ggX6_number_X6_here : GoodIn wsX6_number wsX6_here := goodIn_r _ [12, 1, 13, 3, 17, 18, 19, 20, 21, 22, 23, 24, 25, 26, 27, 28, 29, 30] (by decide +kernel) (by decide +kernel)
set_option maxRecDepth 20000 in
theorem gX6_number_X6_here : GoodIn wsX6_number (wsV RX6 157 RX6 yX6_here wsX6_here) := goodIn_app (goodIn_of _ (by decide +kernel)) ggX6_number_X6_here
set_option maxRecDepth 20000 in
theorem ggX6_number_X6_in : GoodIn wsX6_number wsX6_in := goodIn_r _ [16] (by decide +kernel) (by decide +kernel)
set_option maxRecDepth 20000 in
theorem gX6_number_X6_in : GoodIn wsX6_number (va_wsS RX6 23 yX6_in wsX6_in) := goodIn_app (goodIn_of _ (by decide +kernel)) ggX6_number_X6_in
theorem dX6_number_0 : decode cX6_number 0 = .ok (.aload_n 0, 1) := by decide +kernel
theorem dX6_number_1 : decode cX6_number 1 = .ok (.getfield 151, 3) := by decide +kernel
theorem dX6_number_4 : decode cX6_number 4 = .ok (.istore_n 3, 1) := by decide +kernel
theorem dX6_number_5 : decode cX6_number 5 = .ok (.aload_n 0, 1) := by decide +kernel
theorem dX6_number_6 : decode cX6_number 6 = .ok (.bipush 9, 2) := by decide +kernel
theorem dX6_number_8 : decode cX6_number 8 = .ok (.invokevirtual 160, 3) := by decide +kernel
theorem dX6_number_11 : decode cX6_number 11 = .ok (.istore 4, 2) := by decide +kernel
theorem dX6_number_13 : decode cX6_number 13 = .ok (.iconst 1, 1) := by decide +kernel
theorem dX6_number_14 : decode cX6_number 14 = .ok (.istore 5, 2) := by decide +kernel
theorem dX6_number_16 : decode cX6_number 16 = .ok (.iload 5, 2) := by decide +kernel
theorem dX6_number_18 : decode cX6_number 18 = .ok (.iload_n 1, 1) := by decide +kernel
theorem dX6_number_19 : decode cX6_number 19 = .ok (.if_icmp .ge 61, 3) := by decide +kernel
theorem dX6_number_22 : decode cX6_number 22 = .ok (.aload_n 0, 1) := by decide +kernel
theorem dX6_number_23 : decode cX6_number 23 = .ok (.getfield 154, 3) := by decide +kernel
theorem dX6_number_26 : decode cX6_number 26 = .ok (.iconst (-1), 1) := by decide +kernel
theorem dX6_number_27 : decode cX6_number 27 = .ok (.if_icmp .ne 53, 3) := by decide +kernel
theorem dX6_number_30 : decode cX6_number 30 = .ok (.aload_n 0, 1) := by decide +kernel
theorem dX6_number_31 : decode cX6_number 31 = .ok (.invokevirtual 157, 3) := by decide +kernel
theorem dX6_number_34 : decode cX6_number 34 = .ok (.bipush 48, 2) := by decide +kernel
theorem dX6_number_36 : decode cX6_number 36 = .ok (.bipush 57, 2) := by decide +kernel
theorem dX6_number_38 : decode cX6_number 38 = .ok (.invokestatic 23, 3) := by decide +kernel
theorem dX6_number_41 : decode cX6_number 41 = .ok (.ifCond .eq 39, 3) := by decide +kernel
theorem dX6_number_44 : decode cX6_number 44 = .ok (.bipush 10, 2) := by decide +kernel
theorem dX6_number_46 : decode cX6_number 46 = .ok (.iload 4, 2) := by decide +kernel
theorem dX6_number_48 : decode cX6_number 48 = .ok (.imul, 1) := by decide +kernel
theorem dX6_number_49 : decode cX6_number 49 = .ok (.aload_n 0, 1) := by decide +kernel
theorem dX6_number_50 : decode cX6_number 50 = .ok (.getfield 16, 3) := by decide +kernel
theorem dX6_number_53 : decode cX6_number 53 = .ok (.aload_n 0, 1) := by decide +kernel
theorem dX6_number_54 : decode cX6_number 54 = .ok (.getfield 151, 3) := by decide +kernel
theorem dX6_number_57 : decode cX6_number 57 = .ok (.iaload, 1) := by decide +kernel
theorem dX6_number_58 : decode cX6_number 58 = .ok (.iadd, 1) := by decide +kernel
theorem dX6_number_59 : decode cX6_number 59 = .ok (.bipush 48, 2) := by decide +kernel
theorem dX6_number_61 : decode cX6_number 61 = .ok (.isub, 1) := by decide +kernel
theorem dX6_number_62 : decode cX6_number 62 = .ok (.istore 4, 2) := by decide +kernel
theorem dX6_number_64 : decode cX6_number 64 = .ok (.aload_n 0, 1) := by decide +kernel
theorem dX6_number_65 : decode cX6_number 65 = .ok (.dup, 1) := by decide +kernel
theorem dX6_number_66 : decode cX6_number 66 = .ok (.getfield 151, 3) := by decide +kernel
theorem dX6_number_69 : decode cX6_number 69 = .ok (.iconst 1, 1) := by decide +kernel
theorem dX6_number_70 : decode cX6_number 70 = .ok (.iadd, 1) := by decide +kernel
theorem dX6_number_71 : decode cX6_number 71 = .ok (.putfield 151, 3) := by decide +kernel
theorem dX6_number_74 : decode cX6_number 74 = .ok (.iinc 5 1, 3) := by decide +kernel
theorem dX6_number_77 : decode cX6_number 77 = .ok (.goto (-61), 3) := by decide +kernel
theorem dX6_number_80 : decode cX6_number 80 = .ok (.aload_n 0, 1) := by decide +kernel
theorem dX6_number_81 : decode cX6_number 81 = .ok (.getfield 154, 3) := by decide +kernel
theorem dX6_number_84 : decode cX6_number 84 = .ok (.iconst (-1), 1) := by decide +kernel
theorem dX6_number_85 : decode cX6_number 85 = .ok (.if_icmp .ne 28, 3) := by decide +kernel
theorem dX6_number_88 : decode cX6_number 88 = .ok (.iload 4, 2) := by decide +kernel
theorem dX6_number_90 : decode cX6_number 90 = .ok (.iload_n 2, 1) := by decide +kernel
theorem dX6_number_91 : decode cX6_number 91 = .ok (.if_icmp .ge 22, 3) := by decide +kernel
theorem dX6_number_94 : decode cX6_number 94 = .ok (.aload_n 0, 1) := by decide +kernel
theorem dX6_number_95 : decode cX6_number 95 = .ok (.invokevirtual 157, 3) := by decide +kernel
theorem dX6_number_98 : decode cX6_number 98 = .ok (.bipush 48, 2) := by decide +kernel
theorem dX6_number_100 : decode cX6_number 100 = .ok (.bipush 57, 2) := by decide +kernel
theorem dX6_number_102 : decode cX6_number 102 = .ok (.invokestatic 23, 3) := by decide +kernel
theorem dX6_number_105 : decode cX6_number 105 = .ok (.ifCond .ne 8, 3) := by decide +kernel
theorem dX6_number_108 : decode cX6_number 108 = .ok (.aload_n 0, 1) := by decide +kernel
theorem dX6_number_109 : decode cX6_number 109 = .ok (.iload_n 3, 1) := by decide +kernel
theorem dX6_number_110 : decode cX6_number 110 = .ok (.putfield 154, 3) := by decide +kernel
theorem dX6_number_113 : decode cX6_number 113 = .ok (.iload 4, 2) := by decide +kernel
theorem dX6_number_115 : decode cX6_number 115 = .ok (.ireturn, 1) := by decide +kernel
set_option maxRecDepth 20000 in
theorem ggX6_readOrder_X6_here : GoodIn wsX6_readOrder wsX6_here := goodIn_r _ [13, 2, 14, 15, 31, 32, 33, 34, 35, 36, 37, 38, 39, 40, 41, 42, 43, 44] (by decide +kernel) (by decide +kernel)
set_option maxRecDepth 20000 in
theorem gX6_readOrder_X6_here : GoodIn wsX6_readOrder (wsV RX6 157 RX6 yX6_here wsX6_here) := goodIn_app (goodIn_of _ (by decide +kernel)) ggX6_readOrder_X6_here
set_option maxRecDepth 20000 in
theorem ggX6_readOrder_X6_sign : GoodIn wsX6_readOrder wsX6_sign := goodIn_r _ [19, 3, 2, 9, 10, 11, 12, 13, 14, 15, 31, 32, 33, 34, 35, 36, 37, 38, 39, 40, 41, 42, 43, 44] (by decide +kernel) (by decide +kernel)
set_option maxRecDepth 20000 in
theorem gX6_readOrder_X6_sign : GoodIn wsX6_readOrder (wsV RX6 166 RX6 yX6_sign wsX6_sign) := goodIn_app (goodIn_of _ (by decide +kernel)) ggX6_readOrder_X6_sign
set_option maxRecDepth 20000 in
theorem ggX6_readOrder_X6_digit : GoodIn wsX6_readOrder wsX6_digit := goodIn_r _ [23, 3, 2, 15, 9, 10, 11, 12, 13, 14, 24, 25, 26, 31, 32, 33, 34, 35, 36, 37, 38, 39, 40, 41, 42, 43, 44] (by decide +kernel) (by decide +kernel)
set_option maxRecDepth 20000 in
theorem gX6_readOrder_X6_digit : GoodIn wsX6_readOrder (wsV RX6 160 RX6 yX6_digit wsX6_digit) := goodIn_app (goodIn_of _ (by decide +kernel)) ggX6_readOrder_X6_digit
set_option maxRecDepth 20000 in
theorem ggX6_readOrder_X6_number : GoodIn wsX6_readOrder wsX6_number := goodIn_r _ [30, 2, 3, 15, 20, 21, 22, 12, 23, 9, 10, 11, 13, 14, 24, 25, 26, 31, 32, 33, 34, 35, 36, 37, 38, 39, 40, 41, 42, 43, 44] (by decide +kernel) (by decide +kernel)
set_option maxRecDepth 20000 in
theorem gX6_readOrder_X6_number : GoodIn wsX6_readOrder (wsV RX6 176 RX6 yX6_number wsX6_number) := goodIn_app (goodIn_of _ (by decide +kernel)) ggX6_readOrder_X6_number
theorem dX6_readOrder_0 : decode cX6_readOrder 0 = .ok (.aload_n 0, 1) := by decide +kernel
theorem dX6_readOrder_1 : decode cX6_readOrder 1 = .ok (.aload_n 0, 1) := by decide +kernel
theorem dX6_readOrder_2 : decode cX6_readOrder 2 = .ok (.invokevirtual 157, 3) := by decide +kernel
theorem dX6_readOrder_5 : decode cX6_readOrder 5 = .ok (.putfield 163, 3) := by decide +kernel
theorem dX6_readOrder_8 : decode cX6_readOrder 8 = .ok (.aload_n 0, 1) := by decide +kernel
theorem dX6_readOrder_9 : decode cX6_readOrder 9 = .ok (.getfield 163, 3) := by decide +kernel
theorem dX6_readOrder_12 : decode cX6_readOrder 12 = .ok (.bipush 112, 2) := by decide +kernel
theorem dX6_readOrder_14 : decode cX6_readOrder 14 = .ok (.if_icmp .eq 47, 3) := by decide +kernel
theorem dX6_readOrder_17 : decode cX6_readOrder 17 = .ok (.aload_n 0, 1) := by decide +kernel
theorem dX6_readOrder_18 : decode cX6_readOrder 18 = .ok (.getfield 163, 3) := by decide +kernel
theorem dX6_readOrder_21 : decode cX6_readOrder 21 = .ok (.bipush 108, 2) := by decide +kernel
theorem dX6_readOrder_23 : decode cX6_readOrder 23 = .ok (.if_icmp .eq 38, 3) := by decide +kernel
theorem dX6_readOrder_26 : decode cX6_readOrder 26 = .ok (.aload_n 0, 1) := by decide +kernel
theorem dX6_readOrder_27 : decode cX6_readOrder 27 = .ok (.getfield 163, 3) := by decide +kernel
theorem dX6_readOrder_30 : decode cX6_readOrder 30 = .ok (.bipush 101, 2) := by decide +kernel
theorem dX6_readOrder_32 : decode cX6_readOrder 32 = .ok (.if_icmp .eq 29, 3) := by decide +kernel
theorem dX6_readOrder_35 : decode cX6_readOrder 35 = .ok (.aload_n 0, 1) := by decide +kernel
theorem dX6_readOrder_36 : decode cX6_readOrder 36 = .ok (.getfield 163, 3) := by decide +kernel
theorem dX6_readOrder_39 : decode cX6_readOrder 39 = .ok (.bipush 115, 2) := by decide +kernel
theorem dX6_readOrder_41 : decode cX6_readOrder 41 = .ok (.if_icmp .eq 20, 3) := by decide +kernel
theorem dX6_readOrder_44 : decode cX6_readOrder 44 = .ok (.aload_n 0, 1) := by decide +kernel
theorem dX6_readOrder_45 : decode cX6_readOrder 45 = .ok (.getfield 163, 3) := by decide +kernel
theorem dX6_readOrder_48 : decode cX6_readOrder 48 = .ok (.bipush 100, 2) := by decide +kernel
theorem dX6_readOrder_50 : decode cX6_readOrder 50 = .ok (.if_icmp .eq 11, 3) := by decide +kernel
theorem dX6_readOrder_53 : decode cX6_readOrder 53 = .ok (.aload_n 0, 1) := by decide +kernel
theorem dX6_readOrder_54 : decode cX6_readOrder 54 = .ok (.aload_n 0, 1) := by decide +kernel
theorem dX6_readOrder_55 : decode cX6_readOrder 55 = .ok (.getfield 151, 3) := by decide +kernel
theorem dX6_readOrder_58 : decode cX6_readOrder 58 = .ok (.putfield 154, 3) := by decide +kernel
theorem dX6_readOrder_61 : decode cX6_readOrder 61 = .ok (.aload_n 0, 1) := by decide +kernel
theorem dX6_readOrder_62 : decode cX6_readOrder 62 = .ok (.aload_n 0, 1) := by decide +kernel
theorem dX6_readOrder_63 : decode cX6_readOrder 63 = .ok (.getfield 163, 3) := by decide +kernel
theorem dX6_readOrder_66 : decode cX6_readOrder 66 = .ok (.invokevirtual 166, 3) := by decide +kernel
theorem dX6_readOrder_69 : decode cX6_readOrder 69 = .ok (.aload_n 0, 1) := by decide +kernel
theorem dX6_readOrder_70 : decode cX6_readOrder 70 = .ok (.getfield 163, 3) := by decide +kernel
theorem dX6_readOrder_73 : decode cX6_readOrder 73 = .ok (.bipush 112, 2) := by decide +kernel
theorem dX6_readOrder_75 : decode cX6_readOrder 75 = .ok (.if_icmp .ne 42, 3) := by decide +kernel
theorem dX6_readOrder_78 : decode cX6_readOrder 78 = .ok (.aload_n 0, 1) := by decide +kernel
theorem dX6_readOrder_79 : decode cX6_readOrder 79 = .ok (.aload_n 0, 1) := by decide +kernel
theorem dX6_readOrder_80 : decode cX6_readOrder 80 = .ok (.bipush 9, 2) := by decide +kernel
theorem dX6_readOrder_82 : decode cX6_readOrder 82 = .ok (.invokevirtual 160, 3) := by decide +kernel
theorem dX6_readOrder_85 : decode cX6_readOrder 85 = .ok (.putfield 170, 3) := by decide +kernel
theorem dX6_readOrder_88 : decode cX6_readOrder 88 = .ok (.aload_n 0, 1) := by decide +kernel
theorem dX6_readOrder_89 : decode cX6_readOrder 89 = .ok (.aload_n 0, 1) := by decide +kernel
theorem dX6_readOrder_90 : decode cX6_readOrder 90 = .ok (.bipush 7, 2) := by decide +kernel
theorem dX6_readOrder_92 : decode cX6_readOrder 92 = .ok (.invokevirtual 160, 3) := by decide +kernel
theorem dX6_readOrder_95 : decode cX6_readOrder 95 = .ok (.putfield 173, 3) := by decide +kernel
theorem dX6_readOrder_98 : decode cX6_readOrder 98 = .ok (.aload_n 0, 1) := by decide +kernel
theorem dX6_readOrder_99 : decode cX6_readOrder 99 = .ok (.bipush 64, 2) := by decide +kernel
theorem dX6_readOrder_101 : decode cX6_readOrder 101 = .ok (.invokevirtual 166, 3) := by decide +kernel
theorem dX6_readOrder_104 : decode cX6_readOrder 104 = .ok (.aload_n 0, 1) := by decide +kernel
theorem dX6_readOrder_105 : decode cX6_readOrder 105 = .ok (.aload_n 0, 1) := by decide +kernel
theorem dX6_readOrder_106 : decode cX6_readOrder 106 = .ok (.iconst 3, 1) := by decide +kernel
theorem dX6_readOrder_107 : decode cX6_readOrder 107 = .ok (.iconst 0, 1) := by decide +kernel
theorem dX6_readOrder_108 : decode cX6_readOrder 108 = .ok (.invokevirtual 176, 3) := by decide +kernel
theorem dX6_readOrder_111 : decode cX6_readOrder 111 = .ok (.putfield 179, 3) := by decide +kernel
theorem dX6_readOrder_114 : decode cX6_readOrder 114 = .ok (.goto 163, 3) := by decide +kernel
theorem dX6_readOrder_117 : decode cX6_readOrder 117 = .ok (.aload_n 0, 1) := by decide +kernel
theorem dX6_readOrder_118 : decode cX6_readOrder 118 = .ok (.getfield 163, 3) := by decide +kernel
theorem dX6_readOrder_121 : decode cX6_readOrder 121 = .ok (.bipush 108, 2) := by decide +kernel
theorem dX6_readOrder_123 : decode cX6_readOrder 123 = .ok (.if_icmp .eq 12, 3) := by decide +kernel
theorem dX6_readOrder_126 : decode cX6_readOrder 126 = .ok (.aload_n 0, 1) := by decide +kernel
theorem dX6_readOrder_127 : decode cX6_readOrder 127 = .ok (.getfield 163, 3) := by decide +kernel
theorem dX6_readOrder_130 : decode cX6_readOrder 130 = .ok (.bipush 101, 2) := by decide +kernel
theorem dX6_readOrder_132 : decode cX6_readOrder 132 = .ok (.if_icmp .ne 46, 3) := by decide +kernel
theorem dX6_readOrder_135 : decode cX6_readOrder 135 = .ok (.aload_n 0, 1) := by decide +kernel
theorem dX6_readOrder_136 : decode cX6_readOrder 136 = .ok (.aload_n 0, 1) := by decide +kernel
theorem dX6_readOrder_137 : decode cX6_readOrder 137 = .ok (.aload_n 0, 1) := by decide +kernel
theorem dX6_readOrder_138 : decode cX6_readOrder 138 = .ok (.getfield 163, 3) := by decide +kernel
theorem dX6_readOrder_141 : decode cX6_readOrder 141 = .ok (.bipush 108, 2) := by decide +kernel
theorem dX6_readOrder_143 : decode cX6_readOrder 143 = .ok (.if_icmp .ne 8, 3) := by decide +kernel
theorem dX6_readOrder_146 : decode cX6_readOrder 146 = .ok (.bipush 9, 2) := by decide +kernel
theorem dX6_readOrder_148 : decode cX6_readOrder 148 = .ok (.goto 5, 3) := by decide +kernel
theorem dX6_readOrder_151 : decode cX6_readOrder 151 = .ok (.bipush 7, 2) := by decide +kernel
theorem dX6_readOrder_153 : decode cX6_readOrder 153 = .ok (.invokevirtual 160, 3) := by decide +kernel
theorem dX6_readOrder_156 : decode cX6_readOrder 156 = .ok (.putfield 170, 3) := by decide +kernel
theorem dX6_readOrder_159 : decode cX6_readOrder 159 = .ok (.aload_n 0, 1) := by decide +kernel
theorem dX6_readOrder_160 : decode cX6_readOrder 160 = .ok (.bipush 43, 2) := by decide +kernel
theorem dX6_readOrder_162 : decode cX6_readOrder 162 = .ok (.invokevirtual 166, 3) := by decide +kernel
theorem dX6_readOrder_165 : decode cX6_readOrder 165 = .ok (.aload_n 0, 1) := by decide +kernel
theorem dX6_readOrder_166 : decode cX6_readOrder 166 = .ok (.aload_n 0, 1) := by decide +kernel
theorem dX6_readOrder_167 : decode cX6_readOrder 167 = .ok (.iconst 2, 1) := by decide +kernel
theorem dX6_readOrder_168 : decode cX6_readOrder 168 = .ok (.iconst 1, 1) := by decide +kernel
theorem dX6_readOrder_169 : decode cX6_readOrder 169 = .ok (.invokevirtual 176, 3) := by decide +kernel
theorem dX6_readOrder_172 : decode cX6_readOrder 172 = .ok (.putfield 173, 3) := by decide +kernel
theorem dX6_readOrder_175 : decode cX6_readOrder 175 = .ok (.goto 102, 3) := by decide +kernel
theorem dX6_readOrder_178 : decode cX6_readOrder 178 = .ok (.aload_n 0, 1) := by decide +kernel
theorem dX6_readOrder_179 : decode cX6_readOrder 179 = .ok (.getfield 163, 3) := by decide +kernel
theorem dX6_readOrder_182 : decode cX6_readOrder 182 = .ok (.bipush 115, 2) := by decide +kernel
theorem dX6_readOrder_184 : decode cX6_readOrder 184 = .ok (.if_icmp .ne 74, 3) := by decide +kernel
theorem dX6_readOrder_187 : decode cX6_readOrder 187 = .ok (.aload_n 0, 1) := by decide +kernel
theorem dX6_readOrder_188 : decode cX6_readOrder 188 = .ok (.aload_n 0, 1) := by decide +kernel
theorem dX6_readOrder_189 : decode cX6_readOrder 189 = .ok (.bipush 9, 2) := by decide +kernel
theorem dX6_readOrder_191 : decode cX6_readOrder 191 = .ok (.invokevirtual 160, 3) := by decide +kernel
theorem dX6_readOrder_194 : decode cX6_readOrder 194 = .ok (.putfield 170, 3) := by decide +kernel
theorem dX6_readOrder_197 : decode cX6_readOrder 197 = .ok (.aload_n 0, 1) := by decide +kernel
theorem dX6_readOrder_198 : decode cX6_readOrder 198 = .ok (.aload_n 0, 1) := by decide +kernel
theorem dX6_readOrder_199 : decode cX6_readOrder 199 = .ok (.bipush 7, 2) := by decide +kernel
theorem dX6_readOrder_201 : decode cX6_readOrder 201 = .ok (.invokevirtual 160, 3) := by decide +kernel
theorem dX6_readOrder_204 : decode cX6_readOrder 204 = .ok (.putfield 173, 3) := by decide +kernel
theorem dX6_readOrder_207 : decode cX6_readOrder 207 = .ok (.aload_n 0, 1) := by decide +kernel
theorem dX6_readOrder_208 : decode cX6_readOrder 208 = .ok (.bipush 58, 2) := by decide +kernel
theorem dX6_readOrder_210 : decode cX6_readOrder 210 = .ok (.invokevirtual 166, 3) := by decide +kernel
theorem dX6_readOrder_213 : decode cX6_readOrder 213 = .ok (.aload_n 0, 1) := by decide +kernel
theorem dX6_readOrder_214 : decode cX6_readOrder 214 = .ok (.aload_n 0, 1) := by decide +kernel
theorem dX6_readOrder_215 : decode cX6_readOrder 215 = .ok (.iconst 3, 1) := by decide +kernel
theorem dX6_readOrder_216 : decode cX6_readOrder 216 = .ok (.iconst 0, 1) := by decide +kernel
theorem dX6_readOrder_217 : decode cX6_readOrder 217 = .ok (.invokevirtual 176, 3) := by decide +kernel
theorem dX6_readOrder_220 : decode cX6_readOrder 220 = .ok (.putfield 179, 3) := by decide +kernel
theorem dX6_readOrder_223 : decode cX6_readOrder 223 = .ok (.aload_n 0, 1) := by decide +kernel
theorem dX6_readOrder_224 : decode cX6_readOrder 224 = .ok (.bipush 45, 2) := by decide +kernel
theorem dX6_readOrder_226 : decode cX6_readOrder 226 = .ok (.invokevirtual 166, 3) := by decide +kernel
theorem dX6_readOrder_229 : decode cX6_readOrder 229 = .ok (.aload_n 0, 1) := by decide +kernel
theorem dX6_readOrder_230 : decode cX6_readOrder 230 = .ok (.aload_n 0, 1) := by decide +kernel
theorem dX6_readOrder_231 : decode cX6_readOrder 231 = .ok (.iconst 3, 1) := by decide +kernel
theorem dX6_readOrder_232 : decode cX6_readOrder 232 = .ok (.iconst 0, 1) := by decide +kernel
theorem dX6_readOrder_233 : decode cX6_readOrder 233 = .ok (.invokevirtual 176, 3) := by decide +kernel
theorem dX6_readOrder_236 : decode cX6_readOrder 236 = .ok (.putfield 182, 3) := by decide +kernel
theorem dX6_readOrder_239 : decode cX6_readOrder 239 = .ok (.aload_n 0, 1) := by decide +kernel
theorem dX6_readOrder_240 : decode cX6_readOrder 240 = .ok (.bipush 44, 2) := by decide +kernel
theorem dX6_readOrder_242 : decode cX6_readOrder 242 = .ok (.invokevirtual 166, 3) := by decide +kernel
theorem dX6_readOrder_245 : decode cX6_readOrder 245 = .ok (.aload_n 0, 1) := by decide +kernel
theorem dX6_readOrder_246 : decode cX6_readOrder 246 = .ok (.aload_n 0, 1) := by decide +kernel
theorem dX6_readOrder_247 : decode cX6_readOrder 247 = .ok (.iconst 2, 1) := by decide +kernel
theorem dX6_readOrder_248 : decode cX6_readOrder 248 = .ok (.iconst 1, 1) := by decide +kernel
theorem dX6_readOrder_249 : decode cX6_readOrder 249 = .ok (.invokevirtual 176, 3) := by decide +kernel
theorem dX6_readOrder_252 : decode cX6_readOrder 252 = .ok (.putfield 185, 3) := by decide +kernel
theorem dX6_readOrder_255 : decode cX6_readOrder 255 = .ok (.goto 22, 3) := by decide +kernel
theorem dX6_readOrder_258 : decode cX6_readOrder 258 = .ok (.aload_n 0, 1) := by decide +kernel
theorem dX6_readOrder_259 : decode cX6_readOrder 259 = .ok (.getfield 163, 3) := by decide +kernel
theorem dX6_readOrder_262 : decode cX6_readOrder 262 = .ok (.bipush 100, 2) := by decide +kernel
theorem dX6_readOrder_264 : decode cX6_readOrder 264 = .ok (.if_icmp .ne 13, 3) := by decide +kernel
theorem dX6_readOrder_267 : decode cX6_readOrder 267 = .ok (.aload_n 0, 1) := by decide +kernel
theorem dX6_readOrder_268 : decode cX6_readOrder 268 = .ok (.aload_n 0, 1) := by decide +kernel
theorem dX6_readOrder_269 : decode cX6_readOrder 269 = .ok (.iconst 2, 1) := by decide +kernel
theorem dX6_readOrder_270 : decode cX6_readOrder 270 = .ok (.iconst 0, 1) := by decide +kernel
theorem dX6_readOrder_271 : decode cX6_readOrder 271 = .ok (.invokevirtual 176, 3) := by decide +kernel
theorem dX6_readOrder_274 : decode cX6_readOrder 274 = .ok (.putfield 170, 3) := by decide +kernel
theorem dX6_readOrder_277 : decode cX6_readOrder 277 = .ok (.aload_n 0, 1) := by decide +kernel
theorem dX6_readOrder_278 : decode cX6_readOrder 278 = .ok (.bipush 59, 2) := by decide +kernel
theorem dX6_readOrder_280 : decode cX6_readOrder 280 = .ok (.invokevirtual 166, 3) := by decide +kernel
theorem dX6_readOrder_283 : decode cX6_readOrder 283 = .ok (.return_, 1) := by decide +kernel
set_option maxRecDepth 20000 in
theorem ggX6_orderRefused_X6_pledgeRefused : GoodIn wsX6_orderRefused wsX6_pledgeRefused := goodIn_r _ [11, 12, 13, 14, 10, 15, 16, 17, 18, 19, 20, 21, 22, 23, 24, 25, 26, 55, 56, 57, 58, 59, 60, 61, 62, 63, 64, 65, 66, 67, 68] (by decide +kernel) (by decide +kernel)
set_option maxRecDepth 20000 in
theorem gX6_orderRefused_X6_pledgeRefused : GoodIn wsX6_orderRefused (wsV RX6 54 RX6 yX6_pledgeRefused wsX6_pledgeRefused) := goodIn_app (goodIn_of _ (by decide +kernel)) ggX6_orderRefused_X6_pledgeRefused
set_option maxRecDepth 20000 in
theorem ggX6_orderRefused_X6_slipRefused : GoodIn wsX6_orderRefused wsX6_slipRefused := goodIn_r _ [30, 12, 13, 14, 10, 15, 16, 17, 18, 19, 31, 32, 33, 34, 55, 56, 57, 58, 59, 60, 61, 62, 63, 64, 65, 66, 67, 68] (by decide +kernel) (by decide +kernel)
set_option maxRecDepth 20000 in
theorem gX6_orderRefused_X6_slipRefused : GoodIn wsX6_orderRefused (wsV RX6 65 RX6 yX6_slipRefused wsX6_slipRefused) := goodIn_app (goodIn_of _ (by decide +kernel)) ggX6_orderRefused_X6_slipRefused
set_option maxRecDepth 20000 in
theorem ggX6_orderRefused_X6_extendRefused : GoodIn wsX6_orderRefused wsX6_extendRefused := goodIn_r _ [38, 20, 21, 22, 10, 23, 16, 17, 18, 19, 39, 40, 41, 42, 55, 56, 57, 58, 59, 60, 61, 62, 63, 64, 65, 66, 67, 68] (by decide +kernel) (by decide +kernel)
set_option maxRecDepth 20000 in
theorem gX6_orderRefused_X6_extendRefused : GoodIn wsX6_orderRefused (wsV RX6 74 RX6 yX6_extendRefused wsX6_extendRefused) := goodIn_app (goodIn_of _ (by decide +kernel)) ggX6_orderRefused_X6_extendRefused
set_option maxRecDepth 20000 in
theorem ggX6_orderRefused_X6_shimRefused : GoodIn wsX6_orderRefused wsX6_shimRefused := goodIn_r _ [46, 16, 47, 48, 49, 10, 50, 17, 18, 19, 20, 21, 22, 23, 24, 25, 26, 55, 56, 57, 58, 59, 60, 61, 62, 63, 64, 65, 66, 67, 68] (by decide +kernel) (by decide +kernel)
set_option maxRecDepth 20000 in
theorem gX6_orderRefused_X6_shimRefused : GoodIn wsX6_orderRefused (wsV RX6 80 RX6 yX6_shimRefused wsX6_shimRefused) := goodIn_app (goodIn_of _ (by decide +kernel)) ggX6_orderRefused_X6_shimRefused
set_option maxRecDepth 20000 in
theorem ggX6_orderRefused_X6_isShim : GoodIn wsX6_orderRefused wsX6_isShim := goodIn_r _ [54, 16, 17, 18, 10, 19, 55, 56, 57, 58, 59, 60, 61, 62, 63, 64, 65, 66, 67, 68] (by decide +kernel) (by decide +kernel)
set_option maxRecDepth 20000 in
theorem gX6_orderRefused_X6_isShim : GoodIn wsX6_orderRefused (wsV RX6 87 RX6 yX6_isShim wsX6_isShim) := goodIn_app (goodIn_of _ (by decide +kernel)) ggX6_orderRefused_X6_isShim
theorem dX6_orderRefused_0 : decode cX6_orderRefused 0 = .ok (.aload_n 0, 1) := by decide +kernel
theorem dX6_orderRefused_1 : decode cX6_orderRefused 1 = .ok (.getfield 163, 3) := by decide +kernel
theorem dX6_orderRefused_4 : decode cX6_orderRefused 4 = .ok (.lookupswitch 112 #[(101, 74), (108, 61), (112, 44), (115, 87)], 44) := by decide +kernel
theorem dX6_orderRefused_48 : decode cX6_orderRefused 48 = .ok (.aload_n 0, 1) := by decide +kernel
theorem dX6_orderRefused_49 : decode cX6_orderRefused 49 = .ok (.aload_n 0, 1) := by decide +kernel
theorem dX6_orderRefused_50 : decode cX6_orderRefused 50 = .ok (.getfield 170, 3) := by decide +kernel
theorem dX6_orderRefused_53 : decode cX6_orderRefused 53 = .ok (.aload_n 0, 1) := by decide +kernel
theorem dX6_orderRefused_54 : decode cX6_orderRefused 54 = .ok (.getfield 173, 3) := by decide +kernel
theorem dX6_orderRefused_57 : decode cX6_orderRefused 57 = .ok (.aload_n 0, 1) := by decide +kernel
theorem dX6_orderRefused_58 : decode cX6_orderRefused 58 = .ok (.getfield 179, 3) := by decide +kernel
theorem dX6_orderRefused_61 : decode cX6_orderRefused 61 = .ok (.invokevirtual 54, 3) := by decide +kernel
theorem dX6_orderRefused_64 : decode cX6_orderRefused 64 = .ok (.ireturn, 1) := by decide +kernel
theorem dX6_orderRefused_65 : decode cX6_orderRefused 65 = .ok (.aload_n 0, 1) := by decide +kernel
theorem dX6_orderRefused_66 : decode cX6_orderRefused 66 = .ok (.aload_n 0, 1) := by decide +kernel
theorem dX6_orderRefused_67 : decode cX6_orderRefused 67 = .ok (.getfield 170, 3) := by decide +kernel
theorem dX6_orderRefused_70 : decode cX6_orderRefused 70 = .ok (.aload_n 0, 1) := by decide +kernel
theorem dX6_orderRefused_71 : decode cX6_orderRefused 71 = .ok (.getfield 173, 3) := by decide +kernel
theorem dX6_orderRefused_74 : decode cX6_orderRefused 74 = .ok (.invokevirtual 65, 3) := by decide +kernel
theorem dX6_orderRefused_77 : decode cX6_orderRefused 77 = .ok (.ireturn, 1) := by decide +kernel
theorem dX6_orderRefused_78 : decode cX6_orderRefused 78 = .ok (.aload_n 0, 1) := by decide +kernel
theorem dX6_orderRefused_79 : decode cX6_orderRefused 79 = .ok (.aload_n 0, 1) := by decide +kernel
theorem dX6_orderRefused_80 : decode cX6_orderRefused 80 = .ok (.getfield 170, 3) := by decide +kernel
theorem dX6_orderRefused_83 : decode cX6_orderRefused 83 = .ok (.aload_n 0, 1) := by decide +kernel
theorem dX6_orderRefused_84 : decode cX6_orderRefused 84 = .ok (.getfield 173, 3) := by decide +kernel
theorem dX6_orderRefused_87 : decode cX6_orderRefused 87 = .ok (.invokevirtual 74, 3) := by decide +kernel
theorem dX6_orderRefused_90 : decode cX6_orderRefused 90 = .ok (.ireturn, 1) := by decide +kernel
theorem dX6_orderRefused_91 : decode cX6_orderRefused 91 = .ok (.aload_n 0, 1) := by decide +kernel
theorem dX6_orderRefused_92 : decode cX6_orderRefused 92 = .ok (.aload_n 0, 1) := by decide +kernel
theorem dX6_orderRefused_93 : decode cX6_orderRefused 93 = .ok (.getfield 170, 3) := by decide +kernel
theorem dX6_orderRefused_96 : decode cX6_orderRefused 96 = .ok (.aload_n 0, 1) := by decide +kernel
theorem dX6_orderRefused_97 : decode cX6_orderRefused 97 = .ok (.getfield 173, 3) := by decide +kernel
theorem dX6_orderRefused_100 : decode cX6_orderRefused 100 = .ok (.aload_n 0, 1) := by decide +kernel
theorem dX6_orderRefused_101 : decode cX6_orderRefused 101 = .ok (.getfield 179, 3) := by decide +kernel
theorem dX6_orderRefused_104 : decode cX6_orderRefused 104 = .ok (.aload_n 0, 1) := by decide +kernel
theorem dX6_orderRefused_105 : decode cX6_orderRefused 105 = .ok (.getfield 182, 3) := by decide +kernel
theorem dX6_orderRefused_108 : decode cX6_orderRefused 108 = .ok (.aload_n 0, 1) := by decide +kernel
theorem dX6_orderRefused_109 : decode cX6_orderRefused 109 = .ok (.getfield 185, 3) := by decide +kernel
theorem dX6_orderRefused_112 : decode cX6_orderRefused 112 = .ok (.invokevirtual 80, 3) := by decide +kernel
theorem dX6_orderRefused_115 : decode cX6_orderRefused 115 = .ok (.ireturn, 1) := by decide +kernel
theorem dX6_orderRefused_116 : decode cX6_orderRefused 116 = .ok (.aload_n 0, 1) := by decide +kernel
theorem dX6_orderRefused_117 : decode cX6_orderRefused 117 = .ok (.aload_n 0, 1) := by decide +kernel
theorem dX6_orderRefused_118 : decode cX6_orderRefused 118 = .ok (.getfield 170, 3) := by decide +kernel
theorem dX6_orderRefused_121 : decode cX6_orderRefused 121 = .ok (.invokevirtual 87, 3) := by decide +kernel
theorem dX6_orderRefused_124 : decode cX6_orderRefused 124 = .ok (.ifCond .eq 7, 3) := by decide +kernel
theorem dX6_orderRefused_127 : decode cX6_orderRefused 127 = .ok (.iconst 0, 1) := by decide +kernel
theorem dX6_orderRefused_128 : decode cX6_orderRefused 128 = .ok (.goto 4, 3) := by decide +kernel
theorem dX6_orderRefused_131 : decode cX6_orderRefused 131 = .ok (.iconst 1, 1) := by decide +kernel
theorem dX6_orderRefused_132 : decode cX6_orderRefused 132 = .ok (.ireturn, 1) := by decide +kernel
set_option maxRecDepth 20000 in
theorem ggX6_orderNow_X6_pledgeNow : GoodIn wsX6_orderNow wsX6_pledgeNow := goodIn_r _ [11, 12, 29, 30, 31, 32, 33, 34, 35, 36, 37, 38, 39, 40, 41, 42] (by decide +kernel) (by decide +kernel)
set_option maxRecDepth 20000 in
theorem gX6_orderNow_X6_pledgeNow : GoodIn wsX6_orderNow (wsV RX6 58 RX6 yX6_pledgeNow wsX6_pledgeNow) := goodIn_app (goodIn_of _ (by decide +kernel)) ggX6_orderNow_X6_pledgeNow
set_option maxRecDepth 20000 in
theorem ggX6_orderNow_X6_slipNow : GoodIn wsX6_orderNow wsX6_slipNow := goodIn_r _ [16, 12, 29, 30, 31, 32, 33, 34, 35, 36, 37, 38, 39, 40, 41, 42] (by decide +kernel) (by decide +kernel)
set_option maxRecDepth 20000 in
theorem gX6_orderNow_X6_slipNow : GoodIn wsX6_orderNow (wsV RX6 68 RX6 yX6_slipNow wsX6_slipNow) := goodIn_app (goodIn_of _ (by decide +kernel)) ggX6_orderNow_X6_slipNow
set_option maxRecDepth 20000 in
theorem ggX6_orderNow_X6_extendNow : GoodIn wsX6_orderNow wsX6_extendNow := goodIn_r _ [20, 12, 29, 30, 31, 32, 33, 34, 35, 36, 37, 38, 39, 40, 41, 42] (by decide +kernel) (by decide +kernel)
set_option maxRecDepth 20000 in
theorem gX6_orderNow_X6_extendNow : GoodIn wsX6_orderNow (wsV RX6 77 RX6 yX6_extendNow wsX6_extendNow) := goodIn_app (goodIn_of _ (by decide +kernel)) ggX6_orderNow_X6_extendNow
set_option maxRecDepth 20000 in
theorem ggX6_orderNow_X6_shimNow : GoodIn wsX6_orderNow wsX6_shimNow := goodIn_r _ [24, 12, 29, 30, 31, 32, 33, 34, 35, 36, 37, 38, 39, 40, 41, 42] (by decide +kernel) (by decide +kernel)
set_option maxRecDepth 20000 in
theorem gX6_orderNow_X6_shimNow : GoodIn wsX6_orderNow (wsV RX6 84 RX6 yX6_shimNow wsX6_shimNow) := goodIn_app (goodIn_of _ (by decide +kernel)) ggX6_orderNow_X6_shimNow
set_option maxRecDepth 20000 in
theorem ggX6_orderNow_X6_dropNow : GoodIn wsX6_orderNow wsX6_dropNow := goodIn_r _ [28, 12, 29, 30, 31, 32, 33, 34, 35, 36, 37, 38, 39, 40, 41, 42] (by decide +kernel) (by decide +kernel)
set_option maxRecDepth 20000 in
theorem gX6_orderNow_X6_dropNow : GoodIn wsX6_orderNow (wsV RX6 90 RX6 yX6_dropNow wsX6_dropNow) := goodIn_app (goodIn_of _ (by decide +kernel)) ggX6_orderNow_X6_dropNow
theorem dX6_orderNow_0 : decode cX6_orderNow 0 = .ok (.aload_n 0, 1) := by decide +kernel
theorem dX6_orderNow_1 : decode cX6_orderNow 1 = .ok (.getfield 163, 3) := by decide +kernel
theorem dX6_orderNow_4 : decode cX6_orderNow 4 = .ok (.lookupswitch 112 #[(101, 74), (108, 61), (112, 44), (115, 87)], 44) := by decide +kernel
theorem dX6_orderNow_48 : decode cX6_orderNow 48 = .ok (.aload_n 0, 1) := by decide +kernel
theorem dX6_orderNow_49 : decode cX6_orderNow 49 = .ok (.aload_n 0, 1) := by decide +kernel
theorem dX6_orderNow_50 : decode cX6_orderNow 50 = .ok (.getfield 170, 3) := by decide +kernel
theorem dX6_orderNow_53 : decode cX6_orderNow 53 = .ok (.aload_n 0, 1) := by decide +kernel
theorem dX6_orderNow_54 : decode cX6_orderNow 54 = .ok (.getfield 173, 3) := by decide +kernel
theorem dX6_orderNow_57 : decode cX6_orderNow 57 = .ok (.aload_n 0, 1) := by decide +kernel
theorem dX6_orderNow_58 : decode cX6_orderNow 58 = .ok (.getfield 179, 3) := by decide +kernel
theorem dX6_orderNow_61 : decode cX6_orderNow 61 = .ok (.invokevirtual 58, 3) := by decide +kernel
theorem dX6_orderNow_64 : decode cX6_orderNow 64 = .ok (.ireturn, 1) := by decide +kernel
theorem dX6_orderNow_65 : decode cX6_orderNow 65 = .ok (.aload_n 0, 1) := by decide +kernel
theorem dX6_orderNow_66 : decode cX6_orderNow 66 = .ok (.aload_n 0, 1) := by decide +kernel
theorem dX6_orderNow_67 : decode cX6_orderNow 67 = .ok (.getfield 170, 3) := by decide +kernel
theorem dX6_orderNow_70 : decode cX6_orderNow 70 = .ok (.aload_n 0, 1) := by decide +kernel
theorem dX6_orderNow_71 : decode cX6_orderNow 71 = .ok (.getfield 173, 3) := by decide +kernel
theorem dX6_orderNow_74 : decode cX6_orderNow 74 = .ok (.invokevirtual 68, 3) := by decide +kernel
theorem dX6_orderNow_77 : decode cX6_orderNow 77 = .ok (.ireturn, 1) := by decide +kernel
theorem dX6_orderNow_78 : decode cX6_orderNow 78 = .ok (.aload_n 0, 1) := by decide +kernel
theorem dX6_orderNow_79 : decode cX6_orderNow 79 = .ok (.aload_n 0, 1) := by decide +kernel
theorem dX6_orderNow_80 : decode cX6_orderNow 80 = .ok (.getfield 170, 3) := by decide +kernel
theorem dX6_orderNow_83 : decode cX6_orderNow 83 = .ok (.aload_n 0, 1) := by decide +kernel
theorem dX6_orderNow_84 : decode cX6_orderNow 84 = .ok (.getfield 173, 3) := by decide +kernel
theorem dX6_orderNow_87 : decode cX6_orderNow 87 = .ok (.invokevirtual 77, 3) := by decide +kernel
theorem dX6_orderNow_90 : decode cX6_orderNow 90 = .ok (.ireturn, 1) := by decide +kernel
theorem dX6_orderNow_91 : decode cX6_orderNow 91 = .ok (.aload_n 0, 1) := by decide +kernel
theorem dX6_orderNow_92 : decode cX6_orderNow 92 = .ok (.aload_n 0, 1) := by decide +kernel
theorem dX6_orderNow_93 : decode cX6_orderNow 93 = .ok (.getfield 170, 3) := by decide +kernel
theorem dX6_orderNow_96 : decode cX6_orderNow 96 = .ok (.aload_n 0, 1) := by decide +kernel
theorem dX6_orderNow_97 : decode cX6_orderNow 97 = .ok (.getfield 173, 3) := by decide +kernel
theorem dX6_orderNow_100 : decode cX6_orderNow 100 = .ok (.aload_n 0, 1) := by decide +kernel
theorem dX6_orderNow_101 : decode cX6_orderNow 101 = .ok (.getfield 179, 3) := by decide +kernel
theorem dX6_orderNow_104 : decode cX6_orderNow 104 = .ok (.aload_n 0, 1) := by decide +kernel
theorem dX6_orderNow_105 : decode cX6_orderNow 105 = .ok (.getfield 182, 3) := by decide +kernel
theorem dX6_orderNow_108 : decode cX6_orderNow 108 = .ok (.aload_n 0, 1) := by decide +kernel
theorem dX6_orderNow_109 : decode cX6_orderNow 109 = .ok (.getfield 185, 3) := by decide +kernel
theorem dX6_orderNow_112 : decode cX6_orderNow 112 = .ok (.invokevirtual 84, 3) := by decide +kernel
theorem dX6_orderNow_115 : decode cX6_orderNow 115 = .ok (.ireturn, 1) := by decide +kernel
theorem dX6_orderNow_116 : decode cX6_orderNow 116 = .ok (.aload_n 0, 1) := by decide +kernel
theorem dX6_orderNow_117 : decode cX6_orderNow 117 = .ok (.aload_n 0, 1) := by decide +kernel
theorem dX6_orderNow_118 : decode cX6_orderNow 118 = .ok (.getfield 170, 3) := by decide +kernel
theorem dX6_orderNow_121 : decode cX6_orderNow 121 = .ok (.invokevirtual 90, 3) := by decide +kernel
theorem dX6_orderNow_124 : decode cX6_orderNow 124 = .ok (.ireturn, 1) := by decide +kernel
set_option maxRecDepth 20000 in
theorem ggX6_carryOut_X6_readOrder : GoodIn wsX6_carryOut wsX6_readOrder := goodIn_r _ [9, 10, 2, 3, 11, 12, 13, 14, 15, 16, 17, 18, 8, 19, 4, 20, 21, 22, 23, 24, 25, 26, 27, 28, 29, 30, 31, 32, 33, 34, 35, 114, 115, 116, 117, 118, 119, 120, 121, 122, 123, 124, 125, 126, 127] (by decide +kernel) (by decide +kernel)
set_option maxRecDepth 20000 in
theorem gX6_carryOut_X6_readOrder : GoodIn wsX6_carryOut (wsV RX6 188 RX6 yX6_readOrder wsX6_readOrder) := goodIn_app (goodIn_of _ (by decide +kernel)) ggX6_carryOut_X6_readOrder
set_option maxRecDepth 20000 in
theorem ggX6_carryOut_X6_save : GoodIn wsX6_carryOut wsX6_save := goodIn_r _ [39, 40, 41, 42, 114, 115, 116, 117, 118, 119, 120, 121, 122, 123, 124, 125, 126, 127] (by decide +kernel) (by decide +kernel)
set_option maxRecDepth 20000 in
theorem gX6_carryOut_X6_save : GoodIn wsX6_carryOut (wsV RX6 34 RX6 yX6_save wsX6_save) := goodIn_app (goodIn_of _ (by decide +kernel)) ggX6_carryOut_X6_save
set_option maxRecDepth 20000 in
theorem ggX6_carryOut_X6_orderRefused : GoodIn wsX6_carryOut wsX6_orderRefused := goodIn_r _ [46, 10, 11, 12, 13, 14, 15, 47, 48, 49, 8, 50, 51, 52, 53, 54, 42, 29, 30, 31, 55, 56, 57, 58, 59, 60, 61, 62, 63, 64, 65, 66, 67, 68, 69, 70, 71, 72, 73, 74, 75, 76, 77, 78, 79, 80, 81, 82, 83, 84, 85, 86, 87, 88, 89, 114, 115, 116, 117, 118, 119, 120, 121, 122, 123, 124, 125, 126, 127] (by decide +kernel) (by decide +kernel)
set_option maxRecDepth 20000 in
theorem gX6_carryOut_X6_orderRefused : GoodIn wsX6_carryOut (wsV RX6 191 RX6 yX6_orderRefused wsX6_orderRefused) := goodIn_app (goodIn_of _ (by decide +kernel)) ggX6_carryOut_X6_orderRefused
set_option maxRecDepth 20000 in
theorem ggX6_carryOut_X6_orderNow : GoodIn wsX6_carryOut wsX6_orderNow := goodIn_r _ [93, 10, 11, 12, 13, 14, 15, 94, 95, 96, 8, 97, 42, 98, 99, 100, 101, 102, 103, 104, 105, 106, 107, 108, 109, 110, 111, 112, 113, 114, 115, 116, 117, 118, 119, 120, 121, 122, 123, 124, 125, 126, 127] (by decide +kernel) (by decide +kernel)
set_option maxRecDepth 20000 in
theorem gX6_carryOut_X6_orderNow : GoodIn wsX6_carryOut (wsV RX6 194 RX6 yX6_orderNow wsX6_orderNow) := goodIn_app (goodIn_of _ (by decide +kernel)) ggX6_carryOut_X6_orderNow
theorem dX6_carryOut_0 : decode cX6_carryOut 0 = .ok (.aload_n 0, 1) := by decide +kernel
theorem dX6_carryOut_1 : decode cX6_carryOut 1 = .ok (.iconst 0, 1) := by decide +kernel
theorem dX6_carryOut_2 : decode cX6_carryOut 2 = .ok (.putfield 19, 3) := by decide +kernel
theorem dX6_carryOut_5 : decode cX6_carryOut 5 = .ok (.aload_n 0, 1) := by decide +kernel
theorem dX6_carryOut_6 : decode cX6_carryOut 6 = .ok (.iconst 0, 1) := by decide +kernel
theorem dX6_carryOut_7 : decode cX6_carryOut 7 = .ok (.putfield 151, 3) := by decide +kernel
theorem dX6_carryOut_10 : decode cX6_carryOut 10 = .ok (.aload_n 0, 1) := by decide +kernel
theorem dX6_carryOut_11 : decode cX6_carryOut 11 = .ok (.iconst (-1), 1) := by decide +kernel
theorem dX6_carryOut_12 : decode cX6_carryOut 12 = .ok (.putfield 154, 3) := by decide +kernel
theorem dX6_carryOut_15 : decode cX6_carryOut 15 = .ok (.aload_n 0, 1) := by decide +kernel
theorem dX6_carryOut_16 : decode cX6_carryOut 16 = .ok (.getfield 154, 3) := by decide +kernel
theorem dX6_carryOut_19 : decode cX6_carryOut 19 = .ok (.iconst (-1), 1) := by decide +kernel
theorem dX6_carryOut_20 : decode cX6_carryOut 20 = .ok (.if_icmp .ne 21, 3) := by decide +kernel
theorem dX6_carryOut_23 : decode cX6_carryOut 23 = .ok (.aload_n 0, 1) := by decide +kernel
theorem dX6_carryOut_24 : decode cX6_carryOut 24 = .ok (.getfield 151, 3) := by decide +kernel
theorem dX6_carryOut_27 : decode cX6_carryOut 27 = .ok (.aload_n 0, 1) := by decide +kernel
theorem dX6_carryOut_28 : decode cX6_carryOut 28 = .ok (.getfield 148, 3) := by decide +kernel
theorem dX6_carryOut_31 : decode cX6_carryOut 31 = .ok (.if_icmp .ge 10, 3) := by decide +kernel
theorem dX6_carryOut_34 : decode cX6_carryOut 34 = .ok (.aload_n 0, 1) := by decide +kernel
theorem dX6_carryOut_35 : decode cX6_carryOut 35 = .ok (.invokevirtual 188, 3) := by decide +kernel
theorem dX6_carryOut_38 : decode cX6_carryOut 38 = .ok (.goto (-23), 3) := by decide +kernel
theorem dX6_carryOut_41 : decode cX6_carryOut 41 = .ok (.aload_n 0, 1) := by decide +kernel
theorem dX6_carryOut_42 : decode cX6_carryOut 42 = .ok (.getfield 154, 3) := by decide +kernel
theorem dX6_carryOut_45 : decode cX6_carryOut 45 = .ok (.iconst (-1), 1) := by decide +kernel
theorem dX6_carryOut_46 : decode cX6_carryOut 46 = .ok (.if_icmp .eq 11, 3) := by decide +kernel
theorem dX6_carryOut_49 : decode cX6_carryOut 49 = .ok (.bipush (-10), 2) := by decide +kernel
theorem dX6_carryOut_51 : decode cX6_carryOut 51 = .ok (.aload_n 0, 1) := by decide +kernel
theorem dX6_carryOut_52 : decode cX6_carryOut 52 = .ok (.getfield 154, 3) := by decide +kernel
theorem dX6_carryOut_55 : decode cX6_carryOut 55 = .ok (.isub, 1) := by decide +kernel
theorem dX6_carryOut_56 : decode cX6_carryOut 56 = .ok (.ireturn, 1) := by decide +kernel
theorem dX6_carryOut_57 : decode cX6_carryOut 57 = .ok (.aload_n 0, 1) := by decide +kernel
theorem dX6_carryOut_58 : decode cX6_carryOut 58 = .ok (.invokevirtual 34, 3) := by decide +kernel
theorem dX6_carryOut_61 : decode cX6_carryOut 61 = .ok (.aload_n 0, 1) := by decide +kernel
theorem dX6_carryOut_62 : decode cX6_carryOut 62 = .ok (.iconst 0, 1) := by decide +kernel
theorem dX6_carryOut_63 : decode cX6_carryOut 63 = .ok (.putfield 151, 3) := by decide +kernel
theorem dX6_carryOut_66 : decode cX6_carryOut 66 = .ok (.iconst 0, 1) := by decide +kernel
theorem dX6_carryOut_67 : decode cX6_carryOut 67 = .ok (.istore_n 1, 1) := by decide +kernel
theorem dX6_carryOut_68 : decode cX6_carryOut 68 = .ok (.aload_n 0, 1) := by decide +kernel
theorem dX6_carryOut_69 : decode cX6_carryOut 69 = .ok (.getfield 151, 3) := by decide +kernel
theorem dX6_carryOut_72 : decode cX6_carryOut 72 = .ok (.aload_n 0, 1) := by decide +kernel
theorem dX6_carryOut_73 : decode cX6_carryOut 73 = .ok (.getfield 148, 3) := by decide +kernel
theorem dX6_carryOut_76 : decode cX6_carryOut 76 = .ok (.if_icmp .ge 37, 3) := by decide +kernel
theorem dX6_carryOut_79 : decode cX6_carryOut 79 = .ok (.aload_n 0, 1) := by decide +kernel
theorem dX6_carryOut_80 : decode cX6_carryOut 80 = .ok (.invokevirtual 188, 3) := by decide +kernel
theorem dX6_carryOut_83 : decode cX6_carryOut 83 = .ok (.aload_n 0, 1) := by decide +kernel
theorem dX6_carryOut_84 : decode cX6_carryOut 84 = .ok (.invokevirtual 191, 3) := by decide +kernel
theorem dX6_carryOut_87 : decode cX6_carryOut 87 = .ok (.ifCond .eq 5, 3) := by decide +kernel
theorem dX6_carryOut_90 : decode cX6_carryOut 90 = .ok (.iload_n 1, 1) := by decide +kernel
theorem dX6_carryOut_91 : decode cX6_carryOut 91 = .ok (.ireturn, 1) := by decide +kernel
theorem dX6_carryOut_92 : decode cX6_carryOut 92 = .ok (.aload_n 0, 1) := by decide +kernel
theorem dX6_carryOut_93 : decode cX6_carryOut 93 = .ok (.invokevirtual 194, 3) := by decide +kernel
theorem dX6_carryOut_96 : decode cX6_carryOut 96 = .ok (.istore_n 2, 1) := by decide +kernel
theorem dX6_carryOut_97 : decode cX6_carryOut 97 = .ok (.iload_n 1, 1) := by decide +kernel
theorem dX6_carryOut_98 : decode cX6_carryOut 98 = .ok (.iload_n 2, 1) := by decide +kernel
theorem dX6_carryOut_99 : decode cX6_carryOut 99 = .ok (.iconst (-1), 1) := by decide +kernel
theorem dX6_carryOut_100 : decode cX6_carryOut 100 = .ok (.if_icmp .ge 7, 3) := by decide +kernel
theorem dX6_carryOut_103 : decode cX6_carryOut 103 = .ok (.iconst 0, 1) := by decide +kernel
theorem dX6_carryOut_104 : decode cX6_carryOut 104 = .ok (.goto 4, 3) := by decide +kernel
theorem dX6_carryOut_107 : decode cX6_carryOut 107 = .ok (.iconst 1, 1) := by decide +kernel
theorem dX6_carryOut_108 : decode cX6_carryOut 108 = .ok (.iadd, 1) := by decide +kernel
theorem dX6_carryOut_109 : decode cX6_carryOut 109 = .ok (.istore_n 1, 1) := by decide +kernel
theorem dX6_carryOut_110 : decode cX6_carryOut 110 = .ok (.goto (-42), 3) := by decide +kernel
theorem dX6_carryOut_113 : decode cX6_carryOut 113 = .ok (.iload_n 1, 1) := by decide +kernel
theorem dX6_carryOut_114 : decode cX6_carryOut 114 = .ok (.ireturn, 1) := by decide +kernel
theorem dX6_mix_0 : decode cX6_mix 0 = .ok (.ldc2_w 197, 3) := by decide +kernel
theorem dX6_mix_3 : decode cX6_mix 3 = .ok (.lload_n 0, 1) := by decide +kernel
theorem dX6_mix_4 : decode cX6_mix 4 = .ok (.lmul, 1) := by decide +kernel
theorem dX6_mix_5 : decode cX6_mix 5 = .ok (.iload_n 2, 1) := by decide +kernel
theorem dX6_mix_6 : decode cX6_mix 6 = .ok (.i2l, 1) := by decide +kernel
theorem dX6_mix_7 : decode cX6_mix 7 = .ok (.ladd, 1) := by decide +kernel
theorem dX6_mix_8 : decode cX6_mix 8 = .ok (.lreturn, 1) := by decide +kernel
set_option maxRecDepth 20000 in
theorem ggX6_digest_X6_mix : GoodIn wsX6_digest wsX6_mix := goodIn_r _ [9, 10] (by decide +kernel) (by decide +kernel)
set_option maxRecDepth 20000 in
theorem gX6_digest_X6_mix : GoodIn wsX6_digest (va_wsS RX6 201 yX6_mix wsX6_mix) := goodIn_app (goodIn_of _ (by decide +kernel)) ggX6_digest_X6_mix
set_option maxRecDepth 20000 in
theorem ggX6_digest_X6_valueOf : GoodIn wsX6_digest wsX6_valueOf := goodIn_r _ [14, 4, 15, 16, 17, 8, 18, 19, 20, 21, 22, 23, 24, 25, 26, 27, 28, 29, 30, 31, 32, 33, 34, 35, 36, 37, 38, 39, 40, 41, 42, 43, 44, 45, 46, 47, 48, 49, 50, 51, 52, 53, 54, 55, 56, 57, 58, 59, 60, 61, 62, 63, 64, 65, 66, 67, 92, 93, 94, 95, 96, 97, 98, 99, 100, 101, 102, 103, 104, 105] (by decide +kernel) (by decide +kernel)
set_option maxRecDepth 20000 in
theorem gX6_digest_X6_valueOf : GoodIn wsX6_digest (wsV RX6 142 RX6 yX6_valueOf wsX6_valueOf) := goodIn_app (goodIn_of _ (by decide +kernel)) ggX6_digest_X6_valueOf
set_option maxRecDepth 20000 in
theorem ggX6_digest_X6_toldVersion : GoodIn wsX6_digest wsX6_toldVersion := goodIn_r _ [71, 4, 72, 73, 74, 8, 75, 35, 36, 37, 76, 77, 78, 79, 54, 55, 56, 57, 92, 93, 94, 95, 96, 97, 98, 99, 100, 101, 102, 103, 104, 105] (by decide +kernel) (by decide +kernel)
set_option maxRecDepth 20000 in
theorem gX6_digest_X6_toldVersion : GoodIn wsX6_digest (wsV RX6 102 RX6 yX6_toldVersion wsX6_toldVersion) := goodIn_app (goodIn_of _ (by decide +kernel)) ggX6_digest_X6_toldVersion
set_option maxRecDepth 20000 in
theorem ggX6_digest_X6_ofUser : GoodIn wsX6_digest wsX6_ofUser := goodIn_r _ [18, 4, 92, 93, 94, 95, 96, 97, 98, 99, 100, 101, 102, 103, 104, 105] (by decide +kernel) (by decide +kernel)
set_option maxRecDepth 20000 in
theorem gX6_digest_X6_ofUser : GoodIn wsX6_digest (wsV RX6 61 RX6 yX6_ofUser wsX6_ofUser) := goodIn_app (goodIn_of _ (by decide +kernel)) ggX6_digest_X6_ofUser
set_option maxRecDepth 20000 in
theorem ggX6_digest_X6_firstOf : GoodIn wsX6_digest wsX6_firstOf := goodIn_r _ [83, 23, 24, 25, 8, 26, 27, 28, 29, 30, 15, 16, 17, 18, 4, 31, 32, 33, 34, 35, 36, 37, 38, 39, 40, 41, 42, 43, 44, 45, 46, 47, 48, 49, 50, 51, 52, 53, 54, 55, 56, 57, 58, 59, 60, 92, 93, 94, 95, 96, 97, 98, 99, 100, 101, 102, 103, 104, 105] (by decide +kernel) (by decide +kernel)
set_option maxRecDepth 20000 in
theorem gX6_digest_X6_firstOf : GoodIn wsX6_digest (wsV RX6 145 RX6 yX6_firstOf wsX6_firstOf) := goodIn_app (goodIn_of _ (by decide +kernel)) ggX6_digest_X6_firstOf
set_option maxRecDepth 20000 in
theorem ggX6_digest_X6_ofShim : GoodIn wsX6_digest wsX6_ofShim := goodIn_r _ [57, 4, 92, 93, 94, 95, 96, 97, 98, 99, 100, 101, 102, 103, 104, 105] (by decide +kernel) (by decide +kernel)
set_option maxRecDepth 20000 in
theorem gX6_digest_X6_ofShim : GoodIn wsX6_digest (wsV RX6 93 RX6 yX6_ofShim wsX6_ofShim) := goodIn_app (goodIn_of _ (by decide +kernel)) ggX6_digest_X6_ofShim
set_option maxRecDepth 20000 in
theorem ggX6_digest_X6_costsOf : GoodIn wsX6_digest wsX6_costsOf := goodIn_r _ [87, 4, 27, 28, 29, 8, 30, 15, 16, 17, 18, 88, 89, 90, 91, 35, 36, 37, 38, 39, 40, 41, 42, 43, 44, 45, 46, 47, 48, 49, 50, 51, 52, 53, 54, 55, 56, 57, 58, 59, 60, 92, 93, 94, 95, 96, 97, 98, 99, 100, 101, 102, 103, 104, 105] (by decide +kernel) (by decide +kernel)
set_option maxRecDepth 20000 in
theorem gX6_digest_X6_costsOf : GoodIn wsX6_digest (wsV RX6 132 RX6 yX6_costsOf wsX6_costsOf) := goodIn_app (goodIn_of _ (by decide +kernel)) ggX6_digest_X6_costsOf
theorem dX6_digest_0 : decode cX6_digest 0 = .ok (.aload_n 0, 1) := by decide +kernel
theorem dX6_digest_1 : decode cX6_digest 1 = .ok (.iconst 0, 1) := by decide +kernel
theorem dX6_digest_2 : decode cX6_digest 2 = .ok (.putfield 19, 3) := by decide +kernel
theorem dX6_digest_5 : decode cX6_digest 5 = .ok (.ldc2_w 199, 3) := by decide +kernel
theorem dX6_digest_8 : decode cX6_digest 8 = .ok (.aload_n 0, 1) := by decide +kernel
theorem dX6_digest_9 : decode cX6_digest 9 = .ok (.getfield 148, 3) := by decide +kernel
theorem dX6_digest_12 : decode cX6_digest 12 = .ok (.invokestatic 201, 3) := by decide +kernel
theorem dX6_digest_15 : decode cX6_digest 15 = .ok (.lstore_n 1, 1) := by decide +kernel
theorem dX6_digest_16 : decode cX6_digest 16 = .ok (.iconst 0, 1) := by decide +kernel
theorem dX6_digest_17 : decode cX6_digest 17 = .ok (.istore_n 3, 1) := by decide +kernel
theorem dX6_digest_18 : decode cX6_digest 18 = .ok (.iload_n 3, 1) := by decide +kernel
theorem dX6_digest_19 : decode cX6_digest 19 = .ok (.bipush 8, 2) := by decide +kernel
theorem dX6_digest_21 : decode cX6_digest 21 = .ok (.if_icmp .ge 19, 3) := by decide +kernel
theorem dX6_digest_24 : decode cX6_digest 24 = .ok (.lload_n 1, 1) := by decide +kernel
theorem dX6_digest_25 : decode cX6_digest 25 = .ok (.aload_n 0, 1) := by decide +kernel
theorem dX6_digest_26 : decode cX6_digest 26 = .ok (.iload_n 3, 1) := by decide +kernel
theorem dX6_digest_27 : decode cX6_digest 27 = .ok (.invokevirtual 142, 3) := by decide +kernel
theorem dX6_digest_30 : decode cX6_digest 30 = .ok (.invokestatic 201, 3) := by decide +kernel
theorem dX6_digest_33 : decode cX6_digest 33 = .ok (.lstore_n 1, 1) := by decide +kernel
theorem dX6_digest_34 : decode cX6_digest 34 = .ok (.iinc 3 1, 3) := by decide +kernel
theorem dX6_digest_37 : decode cX6_digest 37 = .ok (.goto (-19), 3) := by decide +kernel
theorem dX6_digest_40 : decode cX6_digest 40 = .ok (.iconst 0, 1) := by decide +kernel
theorem dX6_digest_41 : decode cX6_digest 41 = .ok (.istore_n 3, 1) := by decide +kernel
theorem dX6_digest_42 : decode cX6_digest 42 = .ok (.iload_n 3, 1) := by decide +kernel
theorem dX6_digest_43 : decode cX6_digest 43 = .ok (.aload_n 0, 1) := by decide +kernel
theorem dX6_digest_44 : decode cX6_digest 44 = .ok (.getfield 7, 3) := by decide +kernel
theorem dX6_digest_47 : decode cX6_digest 47 = .ok (.iconst 0, 1) := by decide +kernel
theorem dX6_digest_48 : decode cX6_digest 48 = .ok (.iaload, 1) := by decide +kernel
theorem dX6_digest_49 : decode cX6_digest 49 = .ok (.if_icmp .ge 36, 3) := by decide +kernel
theorem dX6_digest_52 : decode cX6_digest 52 = .ok (.iconst 0, 1) := by decide +kernel
theorem dX6_digest_53 : decode cX6_digest 53 = .ok (.istore 4, 2) := by decide +kernel
theorem dX6_digest_55 : decode cX6_digest 55 = .ok (.iload 4, 2) := by decide +kernel
theorem dX6_digest_57 : decode cX6_digest 57 = .ok (.iconst 5, 1) := by decide +kernel
theorem dX6_digest_58 : decode cX6_digest 58 = .ok (.if_icmp .ge 21, 3) := by decide +kernel
theorem dX6_digest_61 : decode cX6_digest 61 = .ok (.lload_n 1, 1) := by decide +kernel
theorem dX6_digest_62 : decode cX6_digest 62 = .ok (.aload_n 0, 1) := by decide +kernel
theorem dX6_digest_63 : decode cX6_digest 63 = .ok (.iload_n 3, 1) := by decide +kernel
theorem dX6_digest_64 : decode cX6_digest 64 = .ok (.iload 4, 2) := by decide +kernel
theorem dX6_digest_66 : decode cX6_digest 66 = .ok (.invokevirtual 102, 3) := by decide +kernel
theorem dX6_digest_69 : decode cX6_digest 69 = .ok (.invokestatic 201, 3) := by decide +kernel
theorem dX6_digest_72 : decode cX6_digest 72 = .ok (.lstore_n 1, 1) := by decide +kernel
theorem dX6_digest_73 : decode cX6_digest 73 = .ok (.iinc 4 1, 3) := by decide +kernel
theorem dX6_digest_76 : decode cX6_digest 76 = .ok (.goto (-21), 3) := by decide +kernel
theorem dX6_digest_79 : decode cX6_digest 79 = .ok (.iinc 3 1, 3) := by decide +kernel
theorem dX6_digest_82 : decode cX6_digest 82 = .ok (.goto (-40), 3) := by decide +kernel
theorem dX6_digest_85 : decode cX6_digest 85 = .ok (.iconst 0, 1) := by decide +kernel
theorem dX6_digest_86 : decode cX6_digest 86 = .ok (.istore_n 3, 1) := by decide +kernel
theorem dX6_digest_87 : decode cX6_digest 87 = .ok (.iload_n 3, 1) := by decide +kernel
theorem dX6_digest_88 : decode cX6_digest 88 = .ok (.aload_n 0, 1) := by decide +kernel
theorem dX6_digest_89 : decode cX6_digest 89 = .ok (.getfield 7, 3) := by decide +kernel
theorem dX6_digest_92 : decode cX6_digest 92 = .ok (.iconst 2, 1) := by decide +kernel
theorem dX6_digest_93 : decode cX6_digest 93 = .ok (.iaload, 1) := by decide +kernel
theorem dX6_digest_94 : decode cX6_digest 94 = .ok (.if_icmp .ge 48, 3) := by decide +kernel
theorem dX6_digest_97 : decode cX6_digest 97 = .ok (.iconst 0, 1) := by decide +kernel
theorem dX6_digest_98 : decode cX6_digest 98 = .ok (.istore 4, 2) := by decide +kernel
theorem dX6_digest_100 : decode cX6_digest 100 = .ok (.iload 4, 2) := by decide +kernel
theorem dX6_digest_102 : decode cX6_digest 102 = .ok (.bipush 6, 2) := by decide +kernel
theorem dX6_digest_104 : decode cX6_digest 104 = .ok (.if_icmp .ge 21, 3) := by decide +kernel
theorem dX6_digest_107 : decode cX6_digest 107 = .ok (.lload_n 1, 1) := by decide +kernel
theorem dX6_digest_108 : decode cX6_digest 108 = .ok (.aload_n 0, 1) := by decide +kernel
theorem dX6_digest_109 : decode cX6_digest 109 = .ok (.iload_n 3, 1) := by decide +kernel
theorem dX6_digest_110 : decode cX6_digest 110 = .ok (.iload 4, 2) := by decide +kernel
theorem dX6_digest_112 : decode cX6_digest 112 = .ok (.invokevirtual 61, 3) := by decide +kernel
theorem dX6_digest_115 : decode cX6_digest 115 = .ok (.invokestatic 201, 3) := by decide +kernel
theorem dX6_digest_118 : decode cX6_digest 118 = .ok (.lstore_n 1, 1) := by decide +kernel
theorem dX6_digest_119 : decode cX6_digest 119 = .ok (.iinc 4 1, 3) := by decide +kernel
theorem dX6_digest_122 : decode cX6_digest 122 = .ok (.goto (-22), 3) := by decide +kernel
theorem dX6_digest_125 : decode cX6_digest 125 = .ok (.lload_n 1, 1) := by decide +kernel
theorem dX6_digest_126 : decode cX6_digest 126 = .ok (.aload_n 0, 1) := by decide +kernel
theorem dX6_digest_127 : decode cX6_digest 127 = .ok (.iload_n 3, 1) := by decide +kernel
theorem dX6_digest_128 : decode cX6_digest 128 = .ok (.iconst 0, 1) := by decide +kernel
theorem dX6_digest_129 : decode cX6_digest 129 = .ok (.invokevirtual 145, 3) := by decide +kernel
theorem dX6_digest_132 : decode cX6_digest 132 = .ok (.invokestatic 201, 3) := by decide +kernel
theorem dX6_digest_135 : decode cX6_digest 135 = .ok (.lstore_n 1, 1) := by decide +kernel
theorem dX6_digest_136 : decode cX6_digest 136 = .ok (.iinc 3 1, 3) := by decide +kernel
theorem dX6_digest_139 : decode cX6_digest 139 = .ok (.goto (-52), 3) := by decide +kernel
theorem dX6_digest_142 : decode cX6_digest 142 = .ok (.iconst 0, 1) := by decide +kernel
theorem dX6_digest_143 : decode cX6_digest 143 = .ok (.istore_n 3, 1) := by decide +kernel
theorem dX6_digest_144 : decode cX6_digest 144 = .ok (.iload_n 3, 1) := by decide +kernel
theorem dX6_digest_145 : decode cX6_digest 145 = .ok (.aload_n 0, 1) := by decide +kernel
theorem dX6_digest_146 : decode cX6_digest 146 = .ok (.getfield 7, 3) := by decide +kernel
theorem dX6_digest_149 : decode cX6_digest 149 = .ok (.iconst 3, 1) := by decide +kernel
theorem dX6_digest_150 : decode cX6_digest 150 = .ok (.iaload, 1) := by decide +kernel
theorem dX6_digest_151 : decode cX6_digest 151 = .ok (.if_icmp .ge 36, 3) := by decide +kernel
theorem dX6_digest_154 : decode cX6_digest 154 = .ok (.iconst 0, 1) := by decide +kernel
theorem dX6_digest_155 : decode cX6_digest 155 = .ok (.istore 4, 2) := by decide +kernel
theorem dX6_digest_157 : decode cX6_digest 157 = .ok (.iload 4, 2) := by decide +kernel
theorem dX6_digest_159 : decode cX6_digest 159 = .ok (.iconst 5, 1) := by decide +kernel
theorem dX6_digest_160 : decode cX6_digest 160 = .ok (.if_icmp .ge 21, 3) := by decide +kernel
theorem dX6_digest_163 : decode cX6_digest 163 = .ok (.lload_n 1, 1) := by decide +kernel
theorem dX6_digest_164 : decode cX6_digest 164 = .ok (.aload_n 0, 1) := by decide +kernel
theorem dX6_digest_165 : decode cX6_digest 165 = .ok (.iload_n 3, 1) := by decide +kernel
theorem dX6_digest_166 : decode cX6_digest 166 = .ok (.iload 4, 2) := by decide +kernel
theorem dX6_digest_168 : decode cX6_digest 168 = .ok (.invokevirtual 93, 3) := by decide +kernel
theorem dX6_digest_171 : decode cX6_digest 171 = .ok (.invokestatic 201, 3) := by decide +kernel
theorem dX6_digest_174 : decode cX6_digest 174 = .ok (.lstore_n 1, 1) := by decide +kernel
theorem dX6_digest_175 : decode cX6_digest 175 = .ok (.iinc 4 1, 3) := by decide +kernel
theorem dX6_digest_178 : decode cX6_digest 178 = .ok (.goto (-21), 3) := by decide +kernel
theorem dX6_digest_181 : decode cX6_digest 181 = .ok (.iinc 3 1, 3) := by decide +kernel
theorem dX6_digest_184 : decode cX6_digest 184 = .ok (.goto (-40), 3) := by decide +kernel
theorem dX6_digest_187 : decode cX6_digest 187 = .ok (.lload_n 1, 1) := by decide +kernel
theorem dX6_digest_188 : decode cX6_digest 188 = .ok (.aload_n 0, 1) := by decide +kernel
theorem dX6_digest_189 : decode cX6_digest 189 = .ok (.iconst 0, 1) := by decide +kernel
theorem dX6_digest_190 : decode cX6_digest 190 = .ok (.sipush 999, 3) := by decide +kernel
theorem dX6_digest_193 : decode cX6_digest 193 = .ok (.invokevirtual 132, 3) := by decide +kernel
theorem dX6_digest_196 : decode cX6_digest 196 = .ok (.invokestatic 201, 3) := by decide +kernel
theorem dX6_digest_199 : decode cX6_digest 199 = .ok (.aload_n 0, 1) := by decide +kernel
theorem dX6_digest_200 : decode cX6_digest 200 = .ok (.getfield 27, 3) := by decide +kernel
theorem dX6_digest_203 : decode cX6_digest 203 = .ok (.invokestatic 201, 3) := by decide +kernel
theorem dX6_digest_206 : decode cX6_digest 206 = .ok (.lreturn, 1) := by decide +kernel
