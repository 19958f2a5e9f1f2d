set_option maxRecDepth 20000 in
theorem ggX1_init_X3_init : GoodIn wsX1_init wsX3_init := goodIn_r _ [9, 10, 2, 3, 11, 12, 13, 14, 15, 16, 17, 18, 19, 20, 21, 22, 23, 24] (by decide +kernel) (by decide +kernel)
set_option maxRecDepth 20000 in
theorem gX1_init_X3_init_n11 : GoodIn wsX1_init (wsX3_init) := ggX1_init_X3_init
theorem dX1_init_0 : decode cX1_init 0 = .ok (.aload_n 0, 1) := by decide +kernel
theorem dX1_init_1 : decode cX1_init 1 = .ok (.invokespecial 3, 3) := by decide +kernel
theorem dX1_init_4 : decode cX1_init 4 = .ok (.aload_n 0, 1) := by decide +kernel
theorem dX1_init_5 : decode cX1_init 5 = .ok (.new 9, 3) := by decide +kernel
theorem dX1_init_8 : decode cX1_init 8 = .ok (.dup, 1) := by decide +kernel
theorem dX1_init_9 : decode cX1_init 9 = .ok (.invokespecial 11, 3) := by decide +kernel
theorem dX1_init_12 : decode cX1_init 12 = .ok (.putfield 12, 3) := by decide +kernel
theorem dX1_init_15 : decode cX1_init 15 = .ok (.return_, 1) := by decide +kernel
set_option maxRecDepth 20000 in
theorem ggX1_goThrough_X3_copyFrom : GoodIn wsX1_goThrough wsX3_copyFrom := goodIn_r _ [13, 14, 15, 16, 17, 18, 19, 20, 21, 22, 23, 24, 25, 26, 82, 83, 84, 85, 86, 87, 88, 89, 90] (by decide +kernel) (by decide +kernel)
set_option maxRecDepth 20000 in
theorem gX1_goThrough_X3_copyFrom : GoodIn wsX1_goThrough (wsV RX1 18 RX3 yX3_copyFrom wsX3_copyFrom) := goodIn_app (goodIn_of _ (by decide +kernel)) ggX1_goThrough_X3_copyFrom
set_option maxRecDepth 20000 in
theorem ggX1_goThrough_X1_draw : GoodIn wsX1_goThrough wsX1_draw := goodIn_r _ [31, 32, 3, 33, 34, 35, 78, 79, 80, 81] (by decide +kernel) (by decide +kernel)
set_option maxRecDepth 20000 in
theorem gX1_goThrough_X1_draw : GoodIn wsX1_goThrough (wsV RX1 32 RX1 yX1_draw wsX1_draw) := goodIn_app (goodIn_of _ (by decide +kernel)) ggX1_goThrough_X1_draw
set_option maxRecDepth 20000 in
theorem ggX1_goThrough_X3_has : GoodIn wsX1_goThrough wsX3_has := goodIn_r _ [39, 22, 82, 83, 84, 85, 86, 87, 88, 89, 90] (by decide +kernel) (by decide +kernel)
set_option maxRecDepth 20000 in
theorem gX1_goThrough_X3_has : GoodIn wsX1_goThrough (wsV RX1 36 RX3 yX3_has wsX3_has) := goodIn_app (goodIn_of _ (by decide +kernel)) ggX1_goThrough_X3_has
set_option maxRecDepth 20000 in
theorem ggX1_goThrough_X8_isIn : GoodIn wsX1_goThrough wsX8_isIn := goodIn_r _ [42] (by decide +kernel) (by decide +kernel)
set_option maxRecDepth 20000 in
theorem gX1_goThrough_X8_isIn_n43 : GoodIn wsX1_goThrough (wsX8_isIn) := ggX1_goThrough_X8_isIn
set_option maxRecDepth 20000 in
theorem ggX1_goThrough_X3_lookAt : GoodIn wsX1_goThrough wsX3_lookAt := goodIn_r _ [46, 20, 47, 48, 49, 50, 21, 82, 83, 84, 85, 86, 87, 88, 89, 90] (by decide +kernel) (by decide +kernel)
set_option maxRecDepth 20000 in
theorem gX1_goThrough_X3_lookAt : GoodIn wsX1_goThrough (wsV RX1 47 RX3 yX3_lookAt wsX3_lookAt) := goodIn_app (goodIn_of _ (by decide +kernel)) ggX1_goThrough_X3_lookAt
set_option maxRecDepth 20000 in
theorem ggX1_goThrough_X1_haveNext : GoodIn wsX1_goThrough wsX1_haveNext := goodIn_r _ [54, 1, 2, 55, 56, 57, 58, 12, 59, 24, 22, 23, 40, 41, 42, 60, 61, 62, 63, 14, 20, 64, 65, 66, 67, 21, 47, 48, 49, 50, 68, 69, 70, 71, 72, 73, 74, 75, 76, 19, 77, 78, 79, 80, 81, 82, 83, 84, 85, 86, 87, 88, 89, 90] (by decide +kernel) (by decide +kernel)
set_option maxRecDepth 20000 in
theorem gX1_goThrough_X1_haveNext : GoodIn wsX1_goThrough (wsV RX1 54 RX1 yX1_haveNext wsX1_haveNext) := goodIn_app (goodIn_of _ (by decide +kernel)) ggX1_goThrough_X1_haveNext
theorem dX1_goThrough_0 : decode cX1_goThrough 0 = .ok (.aload_n 0, 1) := by decide +kernel
theorem dX1_goThrough_1 : decode cX1_goThrough 1 = .ok (.getfield 12, 3) := by decide +kernel
theorem dX1_goThrough_4 : decode cX1_goThrough 4 = .ok (.aload_n 1, 1) := by decide +kernel
theorem dX1_goThrough_5 : decode cX1_goThrough 5 = .ok (.invokevirtual 18, 3) := by decide +kernel
theorem dX1_goThrough_8 : decode cX1_goThrough 8 = .ok (.aload_n 0, 1) := by decide +kernel
theorem dX1_goThrough_9 : decode cX1_goThrough 9 = .ok (.iconst 0, 1) := by decide +kernel
theorem dX1_goThrough_10 : decode cX1_goThrough 10 = .ok (.putfield 22, 3) := by decide +kernel
theorem dX1_goThrough_13 : decode cX1_goThrough 13 = .ok (.aload_n 0, 1) := by decide +kernel
theorem dX1_goThrough_14 : decode cX1_goThrough 14 = .ok (.iload_n 3, 1) := by decide +kernel
theorem dX1_goThrough_15 : decode cX1_goThrough 15 = .ok (.putfield 26, 3) := by decide +kernel
theorem dX1_goThrough_18 : decode cX1_goThrough 18 = .ok (.iconst 0, 1) := by decide +kernel
theorem dX1_goThrough_19 : decode cX1_goThrough 19 = .ok (.istore 4, 2) := by decide +kernel
theorem dX1_goThrough_21 : decode cX1_goThrough 21 = .ok (.iload 4, 2) := by decide +kernel
theorem dX1_goThrough_23 : decode cX1_goThrough 23 = .ok (.iload_n 2, 1) := by decide +kernel
theorem dX1_goThrough_24 : decode cX1_goThrough 24 = .ok (.if_icmp .ge 84, 3) := by decide +kernel
theorem dX1_goThrough_27 : decode cX1_goThrough 27 = .ok (.aload_n 0, 1) := by decide +kernel
theorem dX1_goThrough_28 : decode cX1_goThrough 28 = .ok (.aload_n 0, 1) := by decide +kernel
theorem dX1_goThrough_29 : decode cX1_goThrough 29 = .ok (.getfield 12, 3) := by decide +kernel
theorem dX1_goThrough_32 : decode cX1_goThrough 32 = .ok (.getfield 29, 3) := by decide +kernel
theorem dX1_goThrough_35 : decode cX1_goThrough 35 = .ok (.iconst 1, 1) := by decide +kernel
theorem dX1_goThrough_36 : decode cX1_goThrough 36 = .ok (.iadd, 1) := by decide +kernel
theorem dX1_goThrough_37 : decode cX1_goThrough 37 = .ok (.invokevirtual 32, 3) := by decide +kernel
theorem dX1_goThrough_40 : decode cX1_goThrough 40 = .ok (.istore 5, 2) := by decide +kernel
theorem dX1_goThrough_42 : decode cX1_goThrough 42 = .ok (.aload_n 0, 1) := by decide +kernel
theorem dX1_goThrough_43 : decode cX1_goThrough 43 = .ok (.getfield 12, 3) := by decide +kernel
theorem dX1_goThrough_46 : decode cX1_goThrough 46 = .ok (.iload 5, 2) := by decide +kernel
theorem dX1_goThrough_48 : decode cX1_goThrough 48 = .ok (.invokevirtual 36, 3) := by decide +kernel
theorem dX1_goThrough_51 : decode cX1_goThrough 51 = .ok (.ifCond .eq 29, 3) := by decide +kernel
theorem dX1_goThrough_54 : decode cX1_goThrough 54 = .ok (.aload_n 0, 1) := by decide +kernel
theorem dX1_goThrough_55 : decode cX1_goThrough 55 = .ok (.getfield 12, 3) := by decide +kernel
theorem dX1_goThrough_58 : decode cX1_goThrough 58 = .ok (.getfield 40, 3) := by decide +kernel
theorem dX1_goThrough_61 : decode cX1_goThrough 61 = .ok (.iload 5, 2) := by decide +kernel
theorem dX1_goThrough_63 : decode cX1_goThrough 63 = .ok (.invokestatic 43, 3) := by decide +kernel
theorem dX1_goThrough_66 : decode cX1_goThrough 66 = .ok (.ifCond .ne 14, 3) := by decide +kernel
theorem dX1_goThrough_69 : decode cX1_goThrough 69 = .ok (.aload_n 0, 1) := by decide +kernel
theorem dX1_goThrough_70 : decode cX1_goThrough 70 = .ok (.getfield 12, 3) := by decide +kernel
theorem dX1_goThrough_73 : decode cX1_goThrough 73 = .ok (.iload 5, 2) := by decide +kernel
theorem dX1_goThrough_75 : decode cX1_goThrough 75 = .ok (.iload 4, 2) := by decide +kernel
theorem dX1_goThrough_77 : decode cX1_goThrough 77 = .ok (.invokevirtual 47, 3) := by decide +kernel
theorem dX1_goThrough_80 : decode cX1_goThrough 80 = .ok (.aload_n 1, 1) := by decide +kernel
theorem dX1_goThrough_81 : decode cX1_goThrough 81 = .ok (.getfield 51, 3) := by decide +kernel
theorem dX1_goThrough_84 : decode cX1_goThrough 84 = .ok (.iload 4, 2) := by decide +kernel
theorem dX1_goThrough_86 : decode cX1_goThrough 86 = .ok (.iadd, 1) := by decide +kernel
theorem dX1_goThrough_87 : decode cX1_goThrough 87 = .ok (.iconst 1, 1) := by decide +kernel
theorem dX1_goThrough_88 : decode cX1_goThrough 88 = .ok (.iadd, 1) := by decide +kernel
theorem dX1_goThrough_89 : decode cX1_goThrough 89 = .ok (.iconst 5, 1) := by decide +kernel
theorem dX1_goThrough_90 : decode cX1_goThrough 90 = .ok (.irem, 1) := by decide +kernel
theorem dX1_goThrough_91 : decode cX1_goThrough 91 = .ok (.ifCond .ne 11, 3) := by decide +kernel
theorem dX1_goThrough_94 : decode cX1_goThrough 94 = .ok (.aload_n 0, 1) := by decide +kernel
theorem dX1_goThrough_95 : decode cX1_goThrough 95 = .ok (.iload 4, 2) := by decide +kernel
theorem dX1_goThrough_97 : decode cX1_goThrough 97 = .ok (.iconst 1, 1) := by decide +kernel
theorem dX1_goThrough_98 : decode cX1_goThrough 98 = .ok (.iadd, 1) := by decide +kernel
theorem dX1_goThrough_99 : decode cX1_goThrough 99 = .ok (.invokevirtual 54, 3) := by decide +kernel
theorem dX1_goThrough_102 : decode cX1_goThrough 102 = .ok (.iinc 4 1, 3) := by decide +kernel
theorem dX1_goThrough_105 : decode cX1_goThrough 105 = .ok (.goto (-84), 3) := by decide +kernel
theorem dX1_goThrough_108 : decode cX1_goThrough 108 = .ok (.aload_n 0, 1) := by decide +kernel
theorem dX1_goThrough_109 : decode cX1_goThrough 109 = .ok (.aload_n 0, 1) := by decide +kernel
theorem dX1_goThrough_110 : decode cX1_goThrough 110 = .ok (.getfield 12, 3) := by decide +kernel
theorem dX1_goThrough_113 : decode cX1_goThrough 113 = .ok (.getfield 58, 3) := by decide +kernel
theorem dX1_goThrough_116 : decode cX1_goThrough 116 = .ok (.putfield 61, 3) := by decide +kernel
theorem dX1_goThrough_119 : decode cX1_goThrough 119 = .ok (.return_, 1) := by decide +kernel
set_option maxRecDepth 20000 in
theorem ggX1_haveNext_X3_wouldTake : GoodIn wsX1_haveNext wsX3_wouldTake := goodIn_r _ [8, 9, 10, 11, 12, 13, 14, 15, 16, 17, 7, 18, 19, 20, 21, 22, 23, 24, 25, 26, 27, 28, 29, 30, 31, 32, 33, 34, 45, 46, 47, 48, 49, 50, 51, 52, 53] (by decide +kernel) (by decide +kernel)
set_option maxRecDepth 20000 in
theorem gX1_haveNext_X3_wouldTake : GoodIn wsX1_haveNext (wsV RX1 62 RX3 yX3_wouldTake wsX3_wouldTake) := goodIn_app (goodIn_of _ (by decide +kernel)) ggX1_haveNext_X3_wouldTake
set_option maxRecDepth 20000 in
theorem ggX1_haveNext_X3_haveAway : GoodIn wsX1_haveNext wsX3_haveAway := goodIn_r _ [38, 11, 9, 39, 40, 33, 28, 34, 45, 46, 47, 48, 49, 50, 51, 52, 53] (by decide +kernel) (by decide +kernel)
set_option maxRecDepth 20000 in
theorem gX1_haveNext_X3_haveAway : GoodIn wsX1_haveNext (wsV RX1 68 RX3 yX3_haveAway wsX3_haveAway) := goodIn_app (goodIn_of _ (by decide +kernel)) ggX1_haveNext_X3_haveAway
theorem dX1_haveNext_0 : decode cX1_haveNext 0 = .ok (.aload_n 0, 1) := by decide +kernel
theorem dX1_haveNext_1 : decode cX1_haveNext 1 = .ok (.getfield 12, 3) := by decide +kernel
theorem dX1_haveNext_4 : decode cX1_haveNext 4 = .ok (.iload_n 1, 1) := by decide +kernel
theorem dX1_haveNext_5 : decode cX1_haveNext 5 = .ok (.invokevirtual 62, 3) := by decide +kernel
theorem dX1_haveNext_8 : decode cX1_haveNext 8 = .ok (.istore_n 2, 1) := by decide +kernel
theorem dX1_haveNext_9 : decode cX1_haveNext 9 = .ok (.iload_n 2, 1) := by decide +kernel
theorem dX1_haveNext_10 : decode cX1_haveNext 10 = .ok (.iconst (-1), 1) := by decide +kernel
theorem dX1_haveNext_11 : decode cX1_haveNext 11 = .ok (.if_icmp .eq 29, 3) := by decide +kernel
theorem dX1_haveNext_14 : decode cX1_haveNext 14 = .ok (.aload_n 0, 1) := by decide +kernel
theorem dX1_haveNext_15 : decode cX1_haveNext 15 = .ok (.dup, 1) := by decide +kernel
theorem dX1_haveNext_16 : decode cX1_haveNext 16 = .ok (.getfield 22, 3) := by decide +kernel
theorem dX1_haveNext_19 : decode cX1_haveNext 19 = .ok (.aload_n 0, 1) := by decide +kernel
theorem dX1_haveNext_20 : decode cX1_haveNext 20 = .ok (.getfield 12, 3) := by decide +kernel
theorem dX1_haveNext_23 : decode cX1_haveNext 23 = .ok (.getfield 65, 3) := by decide +kernel
theorem dX1_haveNext_26 : decode cX1_haveNext 26 = .ok (.iload_n 2, 1) := by decide +kernel
theorem dX1_haveNext_27 : decode cX1_haveNext 27 = .ok (.iaload, 1) := by decide +kernel
theorem dX1_haveNext_28 : decode cX1_haveNext 28 = .ok (.iadd, 1) := by decide +kernel
theorem dX1_haveNext_29 : decode cX1_haveNext 29 = .ok (.putfield 22, 3) := by decide +kernel
theorem dX1_haveNext_32 : decode cX1_haveNext 32 = .ok (.aload_n 0, 1) := by decide +kernel
theorem dX1_haveNext_33 : decode cX1_haveNext 33 = .ok (.getfield 12, 3) := by decide +kernel
theorem dX1_haveNext_36 : decode cX1_haveNext 36 = .ok (.iload_n 2, 1) := by decide +kernel
theorem dX1_haveNext_37 : decode cX1_haveNext 37 = .ok (.invokevirtual 68, 3) := by decide +kernel
theorem dX1_haveNext_40 : decode cX1_haveNext 40 = .ok (.return_, 1) := by decide +kernel
theorem dX1_draw_0 : decode cX1_draw 0 = .ok (.aload_n 0, 1) := by decide +kernel
theorem dX1_draw_1 : decode cX1_draw 1 = .ok (.ldc2_w 71, 3) := by decide +kernel
theorem dX1_draw_4 : decode cX1_draw 4 = .ok (.aload_n 0, 1) := by decide +kernel
theorem dX1_draw_5 : decode cX1_draw 5 = .ok (.getfield 26, 3) := by decide +kernel
theorem dX1_draw_8 : decode cX1_draw 8 = .ok (.i2l, 1) := by decide +kernel
theorem dX1_draw_9 : decode cX1_draw 9 = .ok (.lmul, 1) := by decide +kernel
theorem dX1_draw_10 : decode cX1_draw 10 = .ok (.ldc2_w 73, 3) := by decide +kernel
theorem dX1_draw_13 : decode cX1_draw 13 = .ok (.ladd, 1) := by decide +kernel
theorem dX1_draw_14 : decode cX1_draw 14 = .ok (.ldc2_w 75, 3) := by decide +kernel
theorem dX1_draw_17 : decode cX1_draw 17 = .ok (.lrem, 1) := by decide +kernel
theorem dX1_draw_18 : decode cX1_draw 18 = .ok (.l2i, 1) := by decide +kernel
theorem dX1_draw_19 : decode cX1_draw 19 = .ok (.putfield 26, 3) := by decide +kernel
theorem dX1_draw_22 : decode cX1_draw 22 = .ok (.iload_n 1, 1) := by decide +kernel
theorem dX1_draw_23 : decode cX1_draw 23 = .ok (.ifCond .le 15, 3) := by decide +kernel
theorem dX1_draw_26 : decode cX1_draw 26 = .ok (.aload_n 0, 1) := by decide +kernel
theorem dX1_draw_27 : decode cX1_draw 27 = .ok (.getfield 26, 3) := by decide +kernel
theorem dX1_draw_30 : decode cX1_draw 30 = .ok (.ldc 77, 2) := by decide +kernel
theorem dX1_draw_32 : decode cX1_draw 32 = .ok (.idiv, 1) := by decide +kernel
theorem dX1_draw_33 : decode cX1_draw 33 = .ok (.iload_n 1, 1) := by decide +kernel
theorem dX1_draw_34 : decode cX1_draw 34 = .ok (.irem, 1) := by decide +kernel
theorem dX1_draw_35 : decode cX1_draw 35 = .ok (.goto 4, 3) := by decide +kernel
theorem dX1_draw_38 : decode cX1_draw 38 = .ok (.iconst (-1), 1) := by decide +kernel
theorem dX1_draw_39 : decode cX1_draw 39 = .ok (.ireturn, 1) := by decide +kernel
