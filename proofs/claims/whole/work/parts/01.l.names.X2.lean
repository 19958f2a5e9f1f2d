set_option maxRecDepth 20000 in
theorem ggX2_init_X3_init : GoodIn wsX2_init wsX3_init := goodIn_r _ [9, 10, 2, 3, 11, 12, 13, 14, 15, 16, 17, 18, 19, 20, 21, 22, 23, 24] (by decide +kernel) (by decide +kernel)
set_option maxRecDepth 20000 in
theorem gX2_init_X3_init_n11 : GoodIn wsX2_init (wsX3_init) := ggX2_init_X3_init
theorem dX2_init_0 : decode cX2_init 0 = .ok (.aload_n 0, 1) := by decide +kernel
theorem dX2_init_1 : decode cX2_init 1 = .ok (.invokespecial 3, 3) := by decide +kernel
theorem dX2_init_4 : decode cX2_init 4 = .ok (.aload_n 0, 1) := by decide +kernel
theorem dX2_init_5 : decode cX2_init 5 = .ok (.new 9, 3) := by decide +kernel
theorem dX2_init_8 : decode cX2_init 8 = .ok (.dup, 1) := by decide +kernel
theorem dX2_init_9 : decode cX2_init 9 = .ok (.invokespecial 11, 3) := by decide +kernel
theorem dX2_init_12 : decode cX2_init 12 = .ok (.putfield 12, 3) := by decide +kernel
theorem dX2_init_15 : decode cX2_init 15 = .ok (.return_, 1) := by decide +kernel
set_option maxRecDepth 20000 in
theorem ggX2_waysTo_X3_copyFrom : GoodIn wsX2_waysTo wsX3_copyFrom := goodIn_r _ [12, 13, 14, 15, 16, 17, 18, 19, 20, 21, 22, 23, 24, 25, 63, 64, 65, 66, 67, 68, 69, 70, 71] (by decide +kernel) (by decide +kernel)
set_option maxRecDepth 20000 in
theorem gX2_waysTo_X3_copyFrom : GoodIn wsX2_waysTo (wsV RX2 18 RX3 yX3_copyFrom wsX3_copyFrom) := goodIn_app (goodIn_of _ (by decide +kernel)) ggX2_waysTo_X3_copyFrom
set_option maxRecDepth 20000 in
theorem ggX2_waysTo_X2_waysFrom : GoodIn wsX2_waysTo wsX2_waysFrom := goodIn_r _ [30, 6, 1, 7, 31, 32, 33, 34, 35, 36, 37, 11, 38, 23, 21, 22, 39, 40, 41, 42, 43, 44, 45, 13, 19, 46, 47, 48, 49, 20, 50, 3, 4, 5, 51, 52, 53, 54, 55, 56, 57, 58, 59, 26, 27, 28, 29, 60, 61, 62, 63, 64, 65, 66, 67, 68, 69, 70, 71] (by decide +kernel) (by decide +kernel)
set_option maxRecDepth 20000 in
theorem gX2_waysTo_X2_waysFrom : GoodIn wsX2_waysTo (wsV RX2 35 RX2 yX2_waysFrom wsX2_waysFrom) := goodIn_app (goodIn_of _ (by decide +kernel)) ggX2_waysTo_X2_waysFrom
theorem dX2_waysTo_0 : decode cX2_waysTo 0 = .ok (.aload_n 0, 1) := by decide +kernel
theorem dX2_waysTo_1 : decode cX2_waysTo 1 = .ok (.getfield 12, 3) := by decide +kernel
theorem dX2_waysTo_4 : decode cX2_waysTo 4 = .ok (.aload_n 1, 1) := by decide +kernel
theorem dX2_waysTo_5 : decode cX2_waysTo 5 = .ok (.invokevirtual 18, 3) := by decide +kernel
theorem dX2_waysTo_8 : decode cX2_waysTo 8 = .ok (.aload_n 0, 1) := by decide +kernel
theorem dX2_waysTo_9 : decode cX2_waysTo 9 = .ok (.iload_n 3, 1) := by decide +kernel
theorem dX2_waysTo_10 : decode cX2_waysTo 10 = .ok (.iconst 3, 1) := by decide +kernel
theorem dX2_waysTo_11 : decode cX2_waysTo 11 = .ok (.invokestatic 22, 3) := by decide +kernel
theorem dX2_waysTo_14 : decode cX2_waysTo 14 = .ok (.putfield 28, 3) := by decide +kernel
theorem dX2_waysTo_17 : decode cX2_waysTo 17 = .ok (.aload_n 0, 1) := by decide +kernel
theorem dX2_waysTo_18 : decode cX2_waysTo 18 = .ok (.iload_n 2, 1) := by decide +kernel
theorem dX2_waysTo_19 : decode cX2_waysTo 19 = .ok (.putfield 32, 3) := by decide +kernel
theorem dX2_waysTo_22 : decode cX2_waysTo 22 = .ok (.aload_n 0, 1) := by decide +kernel
theorem dX2_waysTo_23 : decode cX2_waysTo 23 = .ok (.iconst 0, 1) := by decide +kernel
theorem dX2_waysTo_24 : decode cX2_waysTo 24 = .ok (.invokevirtual 35, 3) := by decide +kernel
theorem dX2_waysTo_27 : decode cX2_waysTo 27 = .ok (.ireturn, 1) := by decide +kernel
set_option maxRecDepth 20000 in
theorem ggX2_waysFrom_X3_wouldTake : GoodIn wsX2_waysFrom wsX3_wouldTake := goodIn_r _ [12, 13, 14, 15, 16, 17, 18, 19, 20, 21, 11, 22, 23, 24, 25, 26, 27, 28, 29, 30, 31, 32, 33, 34, 35, 36, 37, 38, 50, 51, 52, 53, 54, 55, 56, 57, 58] (by decide +kernel) (by decide +kernel)
set_option maxRecDepth 20000 in
theorem gX2_waysFrom_X3_wouldTake : GoodIn wsX2_waysFrom (wsV RX2 39 RX3 yX3_wouldTake wsX3_wouldTake) := goodIn_app (goodIn_of _ (by decide +kernel)) ggX2_waysFrom_X3_wouldTake
set_option maxRecDepth 20000 in
theorem ggX2_waysFrom_X8_isIn : GoodIn wsX2_waysFrom wsX8_isIn := goodIn_r _ [18] (by decide +kernel) (by decide +kernel)
set_option maxRecDepth 20000 in
theorem gX2_waysFrom_X8_isIn_n48 : GoodIn wsX2_waysFrom (wsX8_isIn) := ggX2_waysFrom_X8_isIn
set_option maxRecDepth 20000 in
theorem ggX2_waysFrom_X3_lookAt : GoodIn wsX2_waysFrom wsX3_lookAt := goodIn_r _ [42, 24, 30, 31, 32, 33, 29, 50, 51, 52, 53, 54, 55, 56, 57, 58] (by decide +kernel) (by decide +kernel)
set_option maxRecDepth 20000 in
theorem gX2_waysFrom_X3_lookAt : GoodIn wsX2_waysFrom (wsV RX2 59 RX3 yX3_lookAt wsX3_lookAt) := goodIn_app (goodIn_of _ (by decide +kernel)) ggX2_waysFrom_X3_lookAt
set_option maxRecDepth 20000 in
theorem ggX2_waysFrom_X2_waysFrom : GoodIn wsX2_waysFrom wsX2_waysFrom := goodIn_r _ [0, 1, 2, 3, 4, 5, 6, 7, 8, 9, 10, 11, 12, 13, 14, 15, 16, 17, 18, 19, 20, 21, 22, 23, 24, 25, 26, 27, 28, 29, 30, 31, 32, 33, 34, 35, 36, 37, 38, 39, 40, 41, 42, 43, 44, 45, 46, 47, 48, 49, 50, 51, 52, 53, 54, 55, 56, 57, 58] (by decide +kernel) (by decide +kernel)
set_option maxRecDepth 20000 in
theorem gX2_waysFrom_X2_waysFrom : GoodIn wsX2_waysFrom (wsV RX2 35 RX2 yX2_waysFrom wsX2_waysFrom) := goodIn_app (goodIn_of _ (by decide +kernel)) ggX2_waysFrom_X2_waysFrom
theorem dX2_waysFrom_0 : decode cX2_waysFrom 0 = .ok (.iload_n 1, 1) := by decide +kernel
theorem dX2_waysFrom_1 : decode cX2_waysFrom 1 = .ok (.aload_n 0, 1) := by decide +kernel
theorem dX2_waysFrom_2 : decode cX2_waysFrom 2 = .ok (.getfield 28, 3) := by decide +kernel
theorem dX2_waysFrom_5 : decode cX2_waysFrom 5 = .ok (.if_icmp .lt 24, 3) := by decide +kernel
theorem dX2_waysFrom_8 : decode cX2_waysFrom 8 = .ok (.aload_n 0, 1) := by decide +kernel
theorem dX2_waysFrom_9 : decode cX2_waysFrom 9 = .ok (.getfield 12, 3) := by decide +kernel
theorem dX2_waysFrom_12 : decode cX2_waysFrom 12 = .ok (.iload_n 1, 1) := by decide +kernel
theorem dX2_waysFrom_13 : decode cX2_waysFrom 13 = .ok (.invokevirtual 39, 3) := by decide +kernel
theorem dX2_waysFrom_16 : decode cX2_waysFrom 16 = .ok (.aload_n 0, 1) := by decide +kernel
theorem dX2_waysFrom_17 : decode cX2_waysFrom 17 = .ok (.getfield 32, 3) := by decide +kernel
theorem dX2_waysFrom_20 : decode cX2_waysFrom 20 = .ok (.if_icmp .ne 7, 3) := by decide +kernel
theorem dX2_waysFrom_23 : decode cX2_waysFrom 23 = .ok (.iconst 1, 1) := by decide +kernel
theorem dX2_waysFrom_24 : decode cX2_waysFrom 24 = .ok (.goto 4, 3) := by decide +kernel
theorem dX2_waysFrom_27 : decode cX2_waysFrom 27 = .ok (.iconst 0, 1) := by decide +kernel
theorem dX2_waysFrom_28 : decode cX2_waysFrom 28 = .ok (.ireturn, 1) := by decide +kernel
theorem dX2_waysFrom_29 : decode cX2_waysFrom 29 = .ok (.iconst 0, 1) := by decide +kernel
theorem dX2_waysFrom_30 : decode cX2_waysFrom 30 = .ok (.istore_n 2, 1) := by decide +kernel
theorem dX2_waysFrom_31 : decode cX2_waysFrom 31 = .ok (.iconst 0, 1) := by decide +kernel
theorem dX2_waysFrom_32 : decode cX2_waysFrom 32 = .ok (.istore_n 3, 1) := by decide +kernel
theorem dX2_waysFrom_33 : decode cX2_waysFrom 33 = .ok (.iload_n 3, 1) := by decide +kernel
theorem dX2_waysFrom_34 : decode cX2_waysFrom 34 = .ok (.aload_n 0, 1) := by decide +kernel
theorem dX2_waysFrom_35 : decode cX2_waysFrom 35 = .ok (.getfield 12, 3) := by decide +kernel
theorem dX2_waysFrom_38 : decode cX2_waysFrom 38 = .ok (.getfield 42, 3) := by decide +kernel
theorem dX2_waysFrom_41 : decode cX2_waysFrom 41 = .ok (.if_icmp .ge 89, 3) := by decide +kernel
theorem dX2_waysFrom_44 : decode cX2_waysFrom 44 = .ok (.aload_n 0, 1) := by decide +kernel
theorem dX2_waysFrom_45 : decode cX2_waysFrom 45 = .ok (.getfield 12, 3) := by decide +kernel
theorem dX2_waysFrom_48 : decode cX2_waysFrom 48 = .ok (.getfield 45, 3) := by decide +kernel
theorem dX2_waysFrom_51 : decode cX2_waysFrom 51 = .ok (.iload_n 3, 1) := by decide +kernel
theorem dX2_waysFrom_52 : decode cX2_waysFrom 52 = .ok (.invokestatic 48, 3) := by decide +kernel
theorem dX2_waysFrom_55 : decode cX2_waysFrom 55 = .ok (.ifCond .eq 6, 3) := by decide +kernel
theorem dX2_waysFrom_58 : decode cX2_waysFrom 58 = .ok (.goto 66, 3) := by decide +kernel
theorem dX2_waysFrom_61 : decode cX2_waysFrom 61 = .ok (.aload_n 0, 1) := by decide +kernel
theorem dX2_waysFrom_62 : decode cX2_waysFrom 62 = .ok (.getfield 12, 3) := by decide +kernel
theorem dX2_waysFrom_65 : decode cX2_waysFrom 65 = .ok (.getfield 52, 3) := by decide +kernel
theorem dX2_waysFrom_68 : decode cX2_waysFrom 68 = .ok (.iload_n 3, 1) := by decide +kernel
theorem dX2_waysFrom_69 : decode cX2_waysFrom 69 = .ok (.iaload, 1) := by decide +kernel
theorem dX2_waysFrom_70 : decode cX2_waysFrom 70 = .ok (.istore 4, 2) := by decide +kernel
theorem dX2_waysFrom_72 : decode cX2_waysFrom 72 = .ok (.aload_n 0, 1) := by decide +kernel
theorem dX2_waysFrom_73 : decode cX2_waysFrom 73 = .ok (.getfield 12, 3) := by decide +kernel
theorem dX2_waysFrom_76 : decode cX2_waysFrom 76 = .ok (.getfield 56, 3) := by decide +kernel
theorem dX2_waysFrom_79 : decode cX2_waysFrom 79 = .ok (.iload_n 3, 1) := by decide +kernel
theorem dX2_waysFrom_80 : decode cX2_waysFrom 80 = .ok (.iaload, 1) := by decide +kernel
theorem dX2_waysFrom_81 : decode cX2_waysFrom 81 = .ok (.istore 5, 2) := by decide +kernel
theorem dX2_waysFrom_83 : decode cX2_waysFrom 83 = .ok (.aload_n 0, 1) := by decide +kernel
theorem dX2_waysFrom_84 : decode cX2_waysFrom 84 = .ok (.getfield 12, 3) := by decide +kernel
theorem dX2_waysFrom_87 : decode cX2_waysFrom 87 = .ok (.iload_n 3, 1) := by decide +kernel
theorem dX2_waysFrom_88 : decode cX2_waysFrom 88 = .ok (.iload_n 1, 1) := by decide +kernel
theorem dX2_waysFrom_89 : decode cX2_waysFrom 89 = .ok (.invokevirtual 59, 3) := by decide +kernel
theorem dX2_waysFrom_92 : decode cX2_waysFrom 92 = .ok (.iload_n 2, 1) := by decide +kernel
theorem dX2_waysFrom_93 : decode cX2_waysFrom 93 = .ok (.aload_n 0, 1) := by decide +kernel
theorem dX2_waysFrom_94 : decode cX2_waysFrom 94 = .ok (.iload_n 1, 1) := by decide +kernel
theorem dX2_waysFrom_95 : decode cX2_waysFrom 95 = .ok (.iconst 1, 1) := by decide +kernel
theorem dX2_waysFrom_96 : decode cX2_waysFrom 96 = .ok (.iadd, 1) := by decide +kernel
theorem dX2_waysFrom_97 : decode cX2_waysFrom 97 = .ok (.invokevirtual 35, 3) := by decide +kernel
theorem dX2_waysFrom_100 : decode cX2_waysFrom 100 = .ok (.iadd, 1) := by decide +kernel
theorem dX2_waysFrom_101 : decode cX2_waysFrom 101 = .ok (.istore_n 2, 1) := by decide +kernel
theorem dX2_waysFrom_102 : decode cX2_waysFrom 102 = .ok (.aload_n 0, 1) := by decide +kernel
theorem dX2_waysFrom_103 : decode cX2_waysFrom 103 = .ok (.getfield 12, 3) := by decide +kernel
theorem dX2_waysFrom_106 : decode cX2_waysFrom 106 = .ok (.getfield 52, 3) := by decide +kernel
theorem dX2_waysFrom_109 : decode cX2_waysFrom 109 = .ok (.iload_n 3, 1) := by decide +kernel
theorem dX2_waysFrom_110 : decode cX2_waysFrom 110 = .ok (.iload 4, 2) := by decide +kernel
theorem dX2_waysFrom_112 : decode cX2_waysFrom 112 = .ok (.iastore, 1) := by decide +kernel
theorem dX2_waysFrom_113 : decode cX2_waysFrom 113 = .ok (.aload_n 0, 1) := by decide +kernel
theorem dX2_waysFrom_114 : decode cX2_waysFrom 114 = .ok (.getfield 12, 3) := by decide +kernel
theorem dX2_waysFrom_117 : decode cX2_waysFrom 117 = .ok (.getfield 56, 3) := by decide +kernel
theorem dX2_waysFrom_120 : decode cX2_waysFrom 120 = .ok (.iload_n 3, 1) := by decide +kernel
theorem dX2_waysFrom_121 : decode cX2_waysFrom 121 = .ok (.iload 5, 2) := by decide +kernel
theorem dX2_waysFrom_123 : decode cX2_waysFrom 123 = .ok (.iastore, 1) := by decide +kernel
theorem dX2_waysFrom_124 : decode cX2_waysFrom 124 = .ok (.iinc 3 1, 3) := by decide +kernel
theorem dX2_waysFrom_127 : decode cX2_waysFrom 127 = .ok (.goto (-94), 3) := by decide +kernel
theorem dX2_waysFrom_130 : decode cX2_waysFrom 130 = .ok (.iload_n 2, 1) := by decide +kernel
theorem dX2_waysFrom_131 : decode cX2_waysFrom 131 = .ok (.ireturn, 1) := by decide +kernel
