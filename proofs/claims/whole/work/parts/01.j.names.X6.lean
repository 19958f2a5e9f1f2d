set_option maxRecDepth 20000 in
theorem ggX6_init_X3_init : GoodIn wsX6_init wsX3_init := goodIn_r _ [12, 13, 2, 3, 8, 14, 15, 16, 17, 18, 19, 20, 21, 22, 23, 24, 25, 26] (by decide +kernel) (by decide +kernel)
set_option maxRecDepth 20000 in
theorem gX6_init_X3_init_n11 : GoodIn wsX6_init (wsX3_init) := ggX6_init_X3_init
theorem dX6_init_0 : decode cX6_init 0 = .ok (.aload_n 0, 1) := by decide +kernel
theorem dX6_init_1 : decode cX6_init 1 = .ok (.invokespecial 3, 3) := by decide +kernel
theorem dX6_init_4 : decode cX6_init 4 = .ok (.aload_n 0, 1) := by decide +kernel
theorem dX6_init_5 : decode cX6_init 5 = .ok (.new 9, 3) := by decide +kernel
theorem dX6_init_8 : decode cX6_init 8 = .ok (.dup, 1) := by decide +kernel
theorem dX6_init_9 : decode cX6_init 9 = .ok (.invokespecial 11, 3) := by decide +kernel
theorem dX6_init_12 : decode cX6_init 12 = .ok (.putfield 12, 3) := by decide +kernel
theorem dX6_init_15 : decode cX6_init 15 = .ok (.aload_n 0, 1) := by decide +kernel
theorem dX6_init_16 : decode cX6_init 16 = .ok (.iconst 4, 1) := by decide +kernel
theorem dX6_init_17 : decode cX6_init 17 = .ok (.newarray .int, 2) := by decide +kernel
theorem dX6_init_19 : decode cX6_init 19 = .ok (.putfield 18, 3) := by decide +kernel
theorem dX6_init_22 : decode cX6_init 22 = .ok (.aload_n 0, 1) := by decide +kernel
theorem dX6_init_23 : decode cX6_init 23 = .ok (.iconst 4, 1) := by decide +kernel
theorem dX6_init_24 : decode cX6_init 24 = .ok (.newarray .int, 2) := by decide +kernel
theorem dX6_init_26 : decode cX6_init 26 = .ok (.putfield 22, 3) := by decide +kernel
theorem dX6_init_29 : decode cX6_init 29 = .ok (.return_, 1) := by decide +kernel
set_option maxRecDepth 20000 in
theorem ggX6_search_X3_copyFrom : GoodIn wsX6_search wsX3_copyFrom := goodIn_r _ [13, 14, 15, 16, 17, 18, 19, 20, 21, 22, 23, 24, 25, 26, 89, 90, 91, 92, 93, 94, 95, 96, 97] (by decide +kernel) (by decide +kernel)
set_option maxRecDepth 20000 in
theorem gX6_search_X3_copyFrom : GoodIn wsX6_search (wsV RX6 25 RX3 yX3_copyFrom wsX3_copyFrom) := goodIn_app (goodIn_of _ (by decide +kernel)) ggX6_search_X3_copyFrom
set_option maxRecDepth 20000 in
theorem ggX6_search_X6_tryDay : GoodIn wsX6_search wsX6_tryDay := goodIn_r _ [31, 6, 1, 32, 33, 34, 35, 36, 37, 38, 39, 30, 40, 7, 8, 41, 42, 16, 17, 18, 43, 44, 45, 12, 46, 22, 47, 48, 49, 50, 51, 52, 53, 14, 20, 54, 55, 56, 57, 23, 21, 58, 3, 4, 5, 59, 60, 61, 62, 63, 64, 65, 66, 67, 68, 69, 70, 71, 72, 73, 74, 75, 76, 77, 24, 27, 28, 29, 78, 79, 80, 81, 19, 82, 83, 84, 85, 86, 87, 88, 89, 90, 91, 92, 93, 94, 95, 96, 97] (by decide +kernel) (by decide +kernel)
set_option maxRecDepth 20000 in
theorem gX6_search_X6_tryDay : GoodIn wsX6_search (wsV RX6 45 RX6 yX6_tryDay wsX6_tryDay) := goodIn_app (goodIn_of _ (by decide +kernel)) ggX6_search_X6_tryDay
theorem dX6_search_0 : decode cX6_search 0 = .ok (.aload_n 0, 1) := by decide +kernel
theorem dX6_search_1 : decode cX6_search 1 = .ok (.getfield 12, 3) := by decide +kernel
theorem dX6_search_4 : decode cX6_search 4 = .ok (.aload_n 1, 1) := by decide +kernel
theorem dX6_search_5 : decode cX6_search 5 = .ok (.invokevirtual 25, 3) := by decide +kernel
theorem dX6_search_8 : decode cX6_search 8 = .ok (.aload_n 0, 1) := by decide +kernel
theorem dX6_search_9 : decode cX6_search 9 = .ok (.iload_n 2, 1) := by decide +kernel
theorem dX6_search_10 : decode cX6_search 10 = .ok (.iconst 4, 1) := by decide +kernel
theorem dX6_search_11 : decode cX6_search 11 = .ok (.invokestatic 29, 3) := by decide +kernel
theorem dX6_search_14 : decode cX6_search 14 = .ok (.putfield 35, 3) := by decide +kernel
theorem dX6_search_17 : decode cX6_search 17 = .ok (.aload_n 0, 1) := by decide +kernel
theorem dX6_search_18 : decode cX6_search 18 = .ok (.bipush 64, 2) := by decide +kernel
theorem dX6_search_20 : decode cX6_search 20 = .ok (.putfield 39, 3) := by decide +kernel
theorem dX6_search_23 : decode cX6_search 23 = .ok (.aload_n 0, 1) := by decide +kernel
theorem dX6_search_24 : decode cX6_search 24 = .ok (.iconst (-1), 1) := by decide +kernel
theorem dX6_search_25 : decode cX6_search 25 = .ok (.putfield 42, 3) := by decide +kernel
theorem dX6_search_28 : decode cX6_search 28 = .ok (.aload_n 0, 1) := by decide +kernel
theorem dX6_search_29 : decode cX6_search 29 = .ok (.iconst 0, 1) := by decide +kernel
theorem dX6_search_30 : decode cX6_search 30 = .ok (.iconst 0, 1) := by decide +kernel
theorem dX6_search_31 : decode cX6_search 31 = .ok (.invokevirtual 45, 3) := by decide +kernel
theorem dX6_search_34 : decode cX6_search 34 = .ok (.return_, 1) := by decide +kernel
theorem dX6_touchedOn_0 : decode cX6_touchedOn 0 = .ok (.iload_n 1, 1) := by decide +kernel
theorem dX6_touchedOn_1 : decode cX6_touchedOn 1 = .ok (.ifCond .lt 20, 3) := by decide +kernel
theorem dX6_touchedOn_4 : decode cX6_touchedOn 4 = .ok (.iload_n 1, 1) := by decide +kernel
theorem dX6_touchedOn_5 : decode cX6_touchedOn 5 = .ok (.aload_n 0, 1) := by decide +kernel
theorem dX6_touchedOn_6 : decode cX6_touchedOn 6 = .ok (.getfield 35, 3) := by decide +kernel
theorem dX6_touchedOn_9 : decode cX6_touchedOn 9 = .ok (.if_icmp .ge 12, 3) := by decide +kernel
theorem dX6_touchedOn_12 : decode cX6_touchedOn 12 = .ok (.aload_n 0, 1) := by decide +kernel
theorem dX6_touchedOn_13 : decode cX6_touchedOn 13 = .ok (.getfield 22, 3) := by decide +kernel
theorem dX6_touchedOn_16 : decode cX6_touchedOn 16 = .ok (.iload_n 1, 1) := by decide +kernel
theorem dX6_touchedOn_17 : decode cX6_touchedOn 17 = .ok (.iaload, 1) := by decide +kernel
theorem dX6_touchedOn_18 : decode cX6_touchedOn 18 = .ok (.goto 4, 3) := by decide +kernel
theorem dX6_touchedOn_21 : decode cX6_touchedOn 21 = .ok (.iconst (-1), 1) := by decide +kernel
theorem dX6_touchedOn_22 : decode cX6_touchedOn 22 = .ok (.ireturn, 1) := by decide +kernel
set_option maxRecDepth 20000 in
theorem ggX6_tryDay_X6_keepIfBetter : GoodIn wsX6_tryDay wsX6_keepIfBetter := goodIn_r _ [12, 2, 4, 1, 13, 14, 7, 15, 16, 17, 18, 19, 20, 21, 22, 23, 24, 25, 26, 27, 28, 29, 30, 31, 32, 33, 34, 35, 36, 37, 38, 39, 40, 41, 42, 43, 44, 45, 46, 47, 48, 49, 74, 75, 76, 77, 78, 79, 80, 81, 82, 83, 84, 85, 86, 87, 88] (by decide +kernel) (by decide +kernel)
set_option maxRecDepth 20000 in
theorem gX6_tryDay_X6_keepIfBetter : GoodIn wsX6_tryDay (wsV RX6 49 RX6 yX6_keepIfBetter wsX6_keepIfBetter) := goodIn_app (goodIn_of _ (by decide +kernel)) ggX6_tryDay_X6_keepIfBetter
set_option maxRecDepth 20000 in
theorem ggX6_tryDay_X8_isIn : GoodIn wsX6_tryDay wsX8_isIn := goodIn_r _ [28] (by decide +kernel) (by decide +kernel)
set_option maxRecDepth 20000 in
theorem gX6_tryDay_X8_isIn_n59 : GoodIn wsX6_tryDay (wsX8_isIn) := ggX6_tryDay_X8_isIn
set_option maxRecDepth 20000 in
theorem ggX6_tryDay_X3_lookAt : GoodIn wsX6_tryDay wsX3_lookAt := goodIn_r _ [53, 34, 41, 42, 43, 44, 40, 80, 81, 82, 83, 84, 85, 86, 87, 88] (by decide +kernel) (by decide +kernel)
set_option maxRecDepth 20000 in
theorem gX6_tryDay_X3_lookAt : GoodIn wsX6_tryDay (wsV RX6 69 RX3 yX3_lookAt wsX3_lookAt) := goodIn_app (goodIn_of _ (by decide +kernel)) ggX6_tryDay_X3_lookAt
set_option maxRecDepth 20000 in
theorem ggX6_tryDay_X6_endDay : GoodIn wsX6_tryDay wsX6_endDay := goodIn_r _ [57, 2, 58, 13, 4, 59, 60, 61, 62, 23, 63, 64, 25, 39, 26, 27, 28, 29, 30, 31, 32, 33, 34, 35, 36, 37, 38, 40, 41, 42, 43, 44, 45, 46, 47, 48, 49, 65, 66, 67, 11, 68, 69, 70, 71, 72, 73, 0, 1, 3, 5, 6, 7, 8, 9, 10, 12, 14, 15, 16, 17, 18, 19, 20, 21, 22, 24, 50, 51, 52, 53, 54, 55, 56, 74, 75, 76, 77, 78, 79, 80, 81, 82, 83, 84, 85, 86, 87, 88] (by decide +kernel) (by decide +kernel)
set_option maxRecDepth 20000 in
theorem gX6_tryDay_X6_endDay : GoodIn wsX6_tryDay (wsV RX6 72 RX6 yX6_endDay wsX6_endDay) := goodIn_app (goodIn_of _ (by decide +kernel)) ggX6_tryDay_X6_endDay
theorem dX6_tryDay_0 : decode cX6_tryDay 0 = .ok (.iload_n 1, 1) := by decide +kernel
theorem dX6_tryDay_1 : decode cX6_tryDay 1 = .ok (.aload_n 0, 1) := by decide +kernel
theorem dX6_tryDay_2 : decode cX6_tryDay 2 = .ok (.getfield 35, 3) := by decide +kernel
theorem dX6_tryDay_5 : decode cX6_tryDay 5 = .ok (.if_icmp .lt 9, 3) := by decide +kernel
theorem dX6_tryDay_8 : decode cX6_tryDay 8 = .ok (.aload_n 0, 1) := by decide +kernel
theorem dX6_tryDay_9 : decode cX6_tryDay 9 = .ok (.iload_n 2, 1) := by decide +kernel
theorem dX6_tryDay_10 : decode cX6_tryDay 10 = .ok (.invokevirtual 49, 3) := by decide +kernel
theorem dX6_tryDay_13 : decode cX6_tryDay 13 = .ok (.return_, 1) := by decide +kernel
theorem dX6_tryDay_14 : decode cX6_tryDay 14 = .ok (.iconst 0, 1) := by decide +kernel
theorem dX6_tryDay_15 : decode cX6_tryDay 15 = .ok (.istore_n 3, 1) := by decide +kernel
theorem dX6_tryDay_16 : decode cX6_tryDay 16 = .ok (.iload_n 3, 1) := by decide +kernel
theorem dX6_tryDay_17 : decode cX6_tryDay 17 = .ok (.aload_n 0, 1) := by decide +kernel
theorem dX6_tryDay_18 : decode cX6_tryDay 18 = .ok (.getfield 12, 3) := by decide +kernel
theorem dX6_tryDay_21 : decode cX6_tryDay 21 = .ok (.getfield 53, 3) := by decide +kernel
theorem dX6_tryDay_24 : decode cX6_tryDay 24 = .ok (.if_icmp .ge 94, 3) := by decide +kernel
theorem dX6_tryDay_27 : decode cX6_tryDay 27 = .ok (.aload_n 0, 1) := by decide +kernel
theorem dX6_tryDay_28 : decode cX6_tryDay 28 = .ok (.getfield 12, 3) := by decide +kernel
theorem dX6_tryDay_31 : decode cX6_tryDay 31 = .ok (.getfield 56, 3) := by decide +kernel
theorem dX6_tryDay_34 : decode cX6_tryDay 34 = .ok (.iload_n 3, 1) := by decide +kernel
theorem dX6_tryDay_35 : decode cX6_tryDay 35 = .ok (.invokestatic 59, 3) := by decide +kernel
theorem dX6_tryDay_38 : decode cX6_tryDay 38 = .ok (.ifCond .eq 6, 3) := by decide +kernel
theorem dX6_tryDay_41 : decode cX6_tryDay 41 = .ok (.goto 71, 3) := by decide +kernel
theorem dX6_tryDay_44 : decode cX6_tryDay 44 = .ok (.aload_n 0, 1) := by decide +kernel
theorem dX6_tryDay_45 : decode cX6_tryDay 45 = .ok (.getfield 12, 3) := by decide +kernel
theorem dX6_tryDay_48 : decode cX6_tryDay 48 = .ok (.getfield 63, 3) := by decide +kernel
theorem dX6_tryDay_51 : decode cX6_tryDay 51 = .ok (.iload_n 3, 1) := by decide +kernel
theorem dX6_tryDay_52 : decode cX6_tryDay 52 = .ok (.iaload, 1) := by decide +kernel
theorem dX6_tryDay_53 : decode cX6_tryDay 53 = .ok (.istore 4, 2) := by decide +kernel
theorem dX6_tryDay_55 : decode cX6_tryDay 55 = .ok (.aload_n 0, 1) := by decide +kernel
theorem dX6_tryDay_56 : decode cX6_tryDay 56 = .ok (.getfield 12, 3) := by decide +kernel
theorem dX6_tryDay_59 : decode cX6_tryDay 59 = .ok (.getfield 66, 3) := by decide +kernel
theorem dX6_tryDay_62 : decode cX6_tryDay 62 = .ok (.iload_n 3, 1) := by decide +kernel
theorem dX6_tryDay_63 : decode cX6_tryDay 63 = .ok (.iaload, 1) := by decide +kernel
theorem dX6_tryDay_64 : decode cX6_tryDay 64 = .ok (.istore 5, 2) := by decide +kernel
theorem dX6_tryDay_66 : decode cX6_tryDay 66 = .ok (.aload_n 0, 1) := by decide +kernel
theorem dX6_tryDay_67 : decode cX6_tryDay 67 = .ok (.getfield 12, 3) := by decide +kernel
theorem dX6_tryDay_70 : decode cX6_tryDay 70 = .ok (.iload_n 3, 1) := by decide +kernel
theorem dX6_tryDay_71 : decode cX6_tryDay 71 = .ok (.iload_n 1, 1) := by decide +kernel
theorem dX6_tryDay_72 : decode cX6_tryDay 72 = .ok (.invokevirtual 69, 3) := by decide +kernel
theorem dX6_tryDay_75 : decode cX6_tryDay 75 = .ok (.aload_n 0, 1) := by decide +kernel
theorem dX6_tryDay_76 : decode cX6_tryDay 76 = .ok (.getfield 18, 3) := by decide +kernel
theorem dX6_tryDay_79 : decode cX6_tryDay 79 = .ok (.iload_n 1, 1) := by decide +kernel
theorem dX6_tryDay_80 : decode cX6_tryDay 80 = .ok (.iload_n 3, 1) := by decide +kernel
theorem dX6_tryDay_81 : decode cX6_tryDay 81 = .ok (.iastore, 1) := by decide +kernel
theorem dX6_tryDay_82 : decode cX6_tryDay 82 = .ok (.aload_n 0, 1) := by decide +kernel
theorem dX6_tryDay_83 : decode cX6_tryDay 83 = .ok (.iload_n 1, 1) := by decide +kernel
theorem dX6_tryDay_84 : decode cX6_tryDay 84 = .ok (.iconst 1, 1) := by decide +kernel
theorem dX6_tryDay_85 : decode cX6_tryDay 85 = .ok (.iadd, 1) := by decide +kernel
theorem dX6_tryDay_86 : decode cX6_tryDay 86 = .ok (.iload_n 2, 1) := by decide +kernel
theorem dX6_tryDay_87 : decode cX6_tryDay 87 = .ok (.invokevirtual 72, 3) := by decide +kernel
theorem dX6_tryDay_90 : decode cX6_tryDay 90 = .ok (.aload_n 0, 1) := by decide +kernel
theorem dX6_tryDay_91 : decode cX6_tryDay 91 = .ok (.getfield 12, 3) := by decide +kernel
theorem dX6_tryDay_94 : decode cX6_tryDay 94 = .ok (.getfield 63, 3) := by decide +kernel
theorem dX6_tryDay_97 : decode cX6_tryDay 97 = .ok (.iload_n 3, 1) := by decide +kernel
theorem dX6_tryDay_98 : decode cX6_tryDay 98 = .ok (.iload 4, 2) := by decide +kernel
theorem dX6_tryDay_100 : decode cX6_tryDay 100 = .ok (.iastore, 1) := by decide +kernel
theorem dX6_tryDay_101 : decode cX6_tryDay 101 = .ok (.aload_n 0, 1) := by decide +kernel
theorem dX6_tryDay_102 : decode cX6_tryDay 102 = .ok (.getfield 12, 3) := by decide +kernel
theorem dX6_tryDay_105 : decode cX6_tryDay 105 = .ok (.getfield 66, 3) := by decide +kernel
theorem dX6_tryDay_108 : decode cX6_tryDay 108 = .ok (.iload_n 3, 1) := by decide +kernel
theorem dX6_tryDay_109 : decode cX6_tryDay 109 = .ok (.iload 5, 2) := by decide +kernel
theorem dX6_tryDay_111 : decode cX6_tryDay 111 = .ok (.iastore, 1) := by decide +kernel
theorem dX6_tryDay_112 : decode cX6_tryDay 112 = .ok (.iinc 3 1, 3) := by decide +kernel
theorem dX6_tryDay_115 : decode cX6_tryDay 115 = .ok (.goto (-99), 3) := by decide +kernel
theorem dX6_tryDay_118 : decode cX6_tryDay 118 = .ok (.aload_n 0, 1) := by decide +kernel
theorem dX6_tryDay_119 : decode cX6_tryDay 119 = .ok (.getfield 18, 3) := by decide +kernel
theorem dX6_tryDay_122 : decode cX6_tryDay 122 = .ok (.iload_n 1, 1) := by decide +kernel
theorem dX6_tryDay_123 : decode cX6_tryDay 123 = .ok (.bipush 7, 2) := by decide +kernel
theorem dX6_tryDay_125 : decode cX6_tryDay 125 = .ok (.iastore, 1) := by decide +kernel
theorem dX6_tryDay_126 : decode cX6_tryDay 126 = .ok (.aload_n 0, 1) := by decide +kernel
theorem dX6_tryDay_127 : decode cX6_tryDay 127 = .ok (.iload_n 1, 1) := by decide +kernel
theorem dX6_tryDay_128 : decode cX6_tryDay 128 = .ok (.iconst 1, 1) := by decide +kernel
theorem dX6_tryDay_129 : decode cX6_tryDay 129 = .ok (.iadd, 1) := by decide +kernel
theorem dX6_tryDay_130 : decode cX6_tryDay 130 = .ok (.iload_n 2, 1) := by decide +kernel
theorem dX6_tryDay_131 : decode cX6_tryDay 131 = .ok (.invokevirtual 72, 3) := by decide +kernel
theorem dX6_tryDay_134 : decode cX6_tryDay 134 = .ok (.return_, 1) := by decide +kernel
set_option maxRecDepth 20000 in
theorem ggX6_endDay_X3_wouldTake : GoodIn wsX6_endDay wsX3_wouldTake := goodIn_r _ [10, 11, 12, 13, 14, 15, 16, 17, 18, 19, 9, 20, 21, 22, 23, 24, 25, 26, 27, 28, 29, 30, 31, 32, 33, 34, 35, 36, 80, 81, 82, 83, 84, 85, 86, 87, 88] (by decide +kernel) (by decide +kernel)
set_option maxRecDepth 20000 in
theorem gX6_endDay_X3_wouldTake : GoodIn wsX6_endDay (wsV RX6 75 RX3 yX3_wouldTake wsX3_wouldTake) := goodIn_app (goodIn_of _ (by decide +kernel)) ggX6_endDay_X3_wouldTake
set_option maxRecDepth 20000 in
theorem ggX6_endDay_X6_tryDay : GoodIn wsX6_endDay wsX6_tryDay := goodIn_r _ [47, 48, 1, 49, 4, 50, 51, 52, 53, 54, 55, 40, 56, 3, 57, 58, 59, 60, 61, 62, 63, 64, 65, 9, 66, 12, 14, 15, 16, 17, 18, 19, 20, 21, 22, 23, 24, 25, 26, 13, 27, 28, 29, 30, 31, 32, 33, 34, 35, 36, 67, 68, 69, 70, 71, 72, 73, 0, 2, 5, 6, 7, 8, 10, 11, 37, 38, 39, 41, 42, 43, 44, 45, 46, 74, 75, 76, 77, 78, 79, 80, 81, 82, 83, 84, 85, 86, 87, 88] (by decide +kernel) (by decide +kernel)
set_option maxRecDepth 20000 in
theorem gX6_endDay_X6_tryDay : GoodIn wsX6_endDay (wsV RX6 45 RX6 yX6_tryDay wsX6_tryDay) := goodIn_app (goodIn_of _ (by decide +kernel)) ggX6_endDay_X6_tryDay
set_option maxRecDepth 20000 in
theorem ggX6_endDay_X3_haveAway : GoodIn wsX6_endDay wsX3_haveAway := goodIn_r _ [44, 13, 11, 45, 46, 35, 30, 36, 80, 81, 82, 83, 84, 85, 86, 87, 88] (by decide +kernel) (by decide +kernel)
set_option maxRecDepth 20000 in
theorem gX6_endDay_X3_haveAway : GoodIn wsX6_endDay (wsV RX6 84 RX3 yX3_haveAway wsX3_haveAway) := goodIn_app (goodIn_of _ (by decide +kernel)) ggX6_endDay_X3_haveAway
theorem dX6_endDay_0 : decode cX6_endDay 0 = .ok (.aload_n 0, 1) := by decide +kernel
theorem dX6_endDay_1 : decode cX6_endDay 1 = .ok (.getfield 12, 3) := by decide +kernel
theorem dX6_endDay_4 : decode cX6_endDay 4 = .ok (.iload_n 1, 1) := by decide +kernel
theorem dX6_endDay_5 : decode cX6_endDay 5 = .ok (.invokevirtual 75, 3) := by decide +kernel
theorem dX6_endDay_8 : decode cX6_endDay 8 = .ok (.istore_n 3, 1) := by decide +kernel
theorem dX6_endDay_9 : decode cX6_endDay 9 = .ok (.iload_n 3, 1) := by decide +kernel
theorem dX6_endDay_10 : decode cX6_endDay 10 = .ok (.iconst (-1), 1) := by decide +kernel
theorem dX6_endDay_11 : decode cX6_endDay 11 = .ok (.if_icmp .ne 10, 3) := by decide +kernel
theorem dX6_endDay_14 : decode cX6_endDay 14 = .ok (.aload_n 0, 1) := by decide +kernel
theorem dX6_endDay_15 : decode cX6_endDay 15 = .ok (.iload_n 1, 1) := by decide +kernel
theorem dX6_endDay_16 : decode cX6_endDay 16 = .ok (.iload_n 2, 1) := by decide +kernel
theorem dX6_endDay_17 : decode cX6_endDay 17 = .ok (.invokevirtual 45, 3) := by decide +kernel
theorem dX6_endDay_20 : decode cX6_endDay 20 = .ok (.return_, 1) := by decide +kernel
theorem dX6_endDay_21 : decode cX6_endDay 21 = .ok (.iload_n 2, 1) := by decide +kernel
theorem dX6_endDay_22 : decode cX6_endDay 22 = .ok (.aload_n 0, 1) := by decide +kernel
theorem dX6_endDay_23 : decode cX6_endDay 23 = .ok (.getfield 12, 3) := by decide +kernel
theorem dX6_endDay_26 : decode cX6_endDay 26 = .ok (.getfield 79, 3) := by decide +kernel
theorem dX6_endDay_29 : decode cX6_endDay 29 = .ok (.iload_n 3, 1) := by decide +kernel
theorem dX6_endDay_30 : decode cX6_endDay 30 = .ok (.iaload, 1) := by decide +kernel
theorem dX6_endDay_31 : decode cX6_endDay 31 = .ok (.iadd, 1) := by decide +kernel
theorem dX6_endDay_32 : decode cX6_endDay 32 = .ok (.istore 4, 2) := by decide +kernel
theorem dX6_endDay_34 : decode cX6_endDay 34 = .ok (.iload 4, 2) := by decide +kernel
theorem dX6_endDay_36 : decode cX6_endDay 36 = .ok (.aload_n 0, 1) := by decide +kernel
theorem dX6_endDay_37 : decode cX6_endDay 37 = .ok (.getfield 39, 3) := by decide +kernel
theorem dX6_endDay_40 : decode cX6_endDay 40 = .ok (.if_icmp .le 4, 3) := by decide +kernel
theorem dX6_endDay_43 : decode cX6_endDay 43 = .ok (.return_, 1) := by decide +kernel
theorem dX6_endDay_44 : decode cX6_endDay 44 = .ok (.aload_n 0, 1) := by decide +kernel
theorem dX6_endDay_45 : decode cX6_endDay 45 = .ok (.getfield 12, 3) := by decide +kernel
theorem dX6_endDay_48 : decode cX6_endDay 48 = .ok (.getfield 56, 3) := by decide +kernel
theorem dX6_endDay_51 : decode cX6_endDay 51 = .ok (.istore 5, 2) := by decide +kernel
theorem dX6_endDay_53 : decode cX6_endDay 53 = .ok (.aload_n 0, 1) := by decide +kernel
theorem dX6_endDay_54 : decode cX6_endDay 54 = .ok (.getfield 12, 3) := by decide +kernel
theorem dX6_endDay_57 : decode cX6_endDay 57 = .ok (.getfield 81, 3) := by decide +kernel
theorem dX6_endDay_60 : decode cX6_endDay 60 = .ok (.istore 6, 2) := by decide +kernel
theorem dX6_endDay_62 : decode cX6_endDay 62 = .ok (.aload_n 0, 1) := by decide +kernel
theorem dX6_endDay_63 : decode cX6_endDay 63 = .ok (.getfield 12, 3) := by decide +kernel
theorem dX6_endDay_66 : decode cX6_endDay 66 = .ok (.iload_n 3, 1) := by decide +kernel
theorem dX6_endDay_67 : decode cX6_endDay 67 = .ok (.invokevirtual 84, 3) := by decide +kernel
theorem dX6_endDay_70 : decode cX6_endDay 70 = .ok (.aload_n 0, 1) := by decide +kernel
theorem dX6_endDay_71 : decode cX6_endDay 71 = .ok (.iload_n 1, 1) := by decide +kernel
theorem dX6_endDay_72 : decode cX6_endDay 72 = .ok (.iload 4, 2) := by decide +kernel
theorem dX6_endDay_74 : decode cX6_endDay 74 = .ok (.invokevirtual 45, 3) := by decide +kernel
theorem dX6_endDay_77 : decode cX6_endDay 77 = .ok (.aload_n 0, 1) := by decide +kernel
theorem dX6_endDay_78 : decode cX6_endDay 78 = .ok (.getfield 12, 3) := by decide +kernel
theorem dX6_endDay_81 : decode cX6_endDay 81 = .ok (.iload 5, 2) := by decide +kernel
theorem dX6_endDay_83 : decode cX6_endDay 83 = .ok (.putfield 56, 3) := by decide +kernel
theorem dX6_endDay_86 : decode cX6_endDay 86 = .ok (.aload_n 0, 1) := by decide +kernel
theorem dX6_endDay_87 : decode cX6_endDay 87 = .ok (.getfield 12, 3) := by decide +kernel
theorem dX6_endDay_90 : decode cX6_endDay 90 = .ok (.iload 6, 2) := by decide +kernel
theorem dX6_endDay_92 : decode cX6_endDay 92 = .ok (.putfield 81, 3) := by decide +kernel
theorem dX6_endDay_95 : decode cX6_endDay 95 = .ok (.return_, 1) := by decide +kernel
set_option maxRecDepth 20000 in
theorem ggX6_keepIfBetter_X3_missedOf : GoodIn wsX6_keepIfBetter wsX3_missedOf := goodIn_r _ [16, 17, 18, 19, 20, 21, 22, 23, 15, 24, 25, 26, 27, 28, 29, 30, 31, 32, 33, 34, 35, 36, 37, 38, 39, 40, 41, 48, 49, 50, 51, 52, 53, 54, 55, 56] (by decide +kernel) (by decide +kernel)
set_option maxRecDepth 20000 in
theorem gX6_keepIfBetter_X3_missedOf : GoodIn wsX6_keepIfBetter (wsV RX6 87 RX3 yX3_missedOf wsX3_missedOf) := goodIn_app (goodIn_of _ (by decide +kernel)) ggX6_keepIfBetter_X3_missedOf
theorem dX6_keepIfBetter_0 : decode cX6_keepIfBetter 0 = .ok (.aload_n 0, 1) := by decide +kernel
theorem dX6_keepIfBetter_1 : decode cX6_keepIfBetter 1 = .ok (.getfield 12, 3) := by decide +kernel
theorem dX6_keepIfBetter_4 : decode cX6_keepIfBetter 4 = .ok (.aload_n 0, 1) := by decide +kernel
theorem dX6_keepIfBetter_5 : decode cX6_keepIfBetter 5 = .ok (.getfield 12, 3) := by decide +kernel
theorem dX6_keepIfBetter_8 : decode cX6_keepIfBetter 8 = .ok (.getfield 56, 3) := by decide +kernel
theorem dX6_keepIfBetter_11 : decode cX6_keepIfBetter 11 = .ok (.iconst (-1), 1) := by decide +kernel
theorem dX6_keepIfBetter_12 : decode cX6_keepIfBetter 12 = .ok (.ixor, 1) := by decide +kernel
theorem dX6_keepIfBetter_13 : decode cX6_keepIfBetter 13 = .ok (.aload_n 0, 1) := by decide +kernel
theorem dX6_keepIfBetter_14 : decode cX6_keepIfBetter 14 = .ok (.getfield 35, 3) := by decide +kernel
theorem dX6_keepIfBetter_17 : decode cX6_keepIfBetter 17 = .ok (.invokevirtual 87, 3) := by decide +kernel
theorem dX6_keepIfBetter_20 : decode cX6_keepIfBetter 20 = .ok (.istore_n 2, 1) := by decide +kernel
theorem dX6_keepIfBetter_21 : decode cX6_keepIfBetter 21 = .ok (.iload_n 1, 1) := by decide +kernel
theorem dX6_keepIfBetter_22 : decode cX6_keepIfBetter 22 = .ok (.aload_n 0, 1) := by decide +kernel
theorem dX6_keepIfBetter_23 : decode cX6_keepIfBetter 23 = .ok (.getfield 39, 3) := by decide +kernel
theorem dX6_keepIfBetter_26 : decode cX6_keepIfBetter 26 = .ok (.if_icmp .lt 19, 3) := by decide +kernel
theorem dX6_keepIfBetter_29 : decode cX6_keepIfBetter 29 = .ok (.iload_n 1, 1) := by decide +kernel
theorem dX6_keepIfBetter_30 : decode cX6_keepIfBetter 30 = .ok (.aload_n 0, 1) := by decide +kernel
theorem dX6_keepIfBetter_31 : decode cX6_keepIfBetter 31 = .ok (.getfield 39, 3) := by decide +kernel
theorem dX6_keepIfBetter_34 : decode cX6_keepIfBetter 34 = .ok (.if_icmp .ne 38, 3) := by decide +kernel
theorem dX6_keepIfBetter_37 : decode cX6_keepIfBetter 37 = .ok (.iload_n 2, 1) := by decide +kernel
theorem dX6_keepIfBetter_38 : decode cX6_keepIfBetter 38 = .ok (.aload_n 0, 1) := by decide +kernel
theorem dX6_keepIfBetter_39 : decode cX6_keepIfBetter 39 = .ok (.getfield 42, 3) := by decide +kernel
theorem dX6_keepIfBetter_42 : decode cX6_keepIfBetter 42 = .ok (.if_icmp .le 30, 3) := by decide +kernel
theorem dX6_keepIfBetter_45 : decode cX6_keepIfBetter 45 = .ok (.aload_n 0, 1) := by decide +kernel
theorem dX6_keepIfBetter_46 : decode cX6_keepIfBetter 46 = .ok (.iload_n 1, 1) := by decide +kernel
theorem dX6_keepIfBetter_47 : decode cX6_keepIfBetter 47 = .ok (.putfield 39, 3) := by decide +kernel
theorem dX6_keepIfBetter_50 : decode cX6_keepIfBetter 50 = .ok (.aload_n 0, 1) := by decide +kernel
theorem dX6_keepIfBetter_51 : decode cX6_keepIfBetter 51 = .ok (.iload_n 2, 1) := by decide +kernel
theorem dX6_keepIfBetter_52 : decode cX6_keepIfBetter 52 = .ok (.putfield 42, 3) := by decide +kernel
theorem dX6_keepIfBetter_55 : decode cX6_keepIfBetter 55 = .ok (.aload_n 0, 1) := by decide +kernel
theorem dX6_keepIfBetter_56 : decode cX6_keepIfBetter 56 = .ok (.getfield 18, 3) := by decide +kernel
theorem dX6_keepIfBetter_59 : decode cX6_keepIfBetter 59 = .ok (.iconst 0, 1) := by decide +kernel
theorem dX6_keepIfBetter_60 : decode cX6_keepIfBetter 60 = .ok (.aload_n 0, 1) := by decide +kernel
theorem dX6_keepIfBetter_61 : decode cX6_keepIfBetter 61 = .ok (.getfield 22, 3) := by decide +kernel
theorem dX6_keepIfBetter_64 : decode cX6_keepIfBetter 64 = .ok (.iconst 0, 1) := by decide +kernel
theorem dX6_keepIfBetter_65 : decode cX6_keepIfBetter 65 = .ok (.aload_n 0, 1) := by decide +kernel
theorem dX6_keepIfBetter_66 : decode cX6_keepIfBetter 66 = .ok (.getfield 35, 3) := by decide +kernel
theorem dX6_keepIfBetter_69 : decode cX6_keepIfBetter 69 = .ok (.invokestatic 90, 3) := by decide +kernel
theorem dX6_keepIfBetter_72 : decode cX6_keepIfBetter 72 = .ok (.return_, 1) := by decide +kernel
