theorem dX4_init_0 : decode cX4_init 0 = .ok (.aload_n 0, 1) := by decide +kernel
theorem dX4_init_1 : decode cX4_init 1 = .ok (.invokespecial 3, 3) := by decide +kernel
theorem dX4_init_4 : decode cX4_init 4 = .ok (.return_, 1) := by decide +kernel
set_option maxRecDepth 20000 in
theorem ggX4_search_X3_worthOf : GoodIn wsX4_search wsX3_worthOf := goodIn_r _ [11, 12, 13, 14, 15, 16, 50, 51, 52, 53, 54, 55, 56, 57, 58] (by decide +kernel) (by decide +kernel)
set_option maxRecDepth 20000 in
theorem gX4_search_X3_worthOf : GoodIn wsX4_search (wsV RX4 26 RX3 yX3_worthOf wsX3_worthOf) := goodIn_app (goodIn_of _ (by decide +kernel)) ggX4_search_X3_worthOf
set_option maxRecDepth 20000 in
theorem ggX4_search_X3_missedOf : GoodIn wsX4_search wsX3_missedOf := goodIn_r _ [20, 12, 14, 15, 16, 21, 22, 23, 10, 24, 25, 26, 27, 28, 29, 30, 31, 32, 33, 34, 35, 36, 37, 38, 39, 40, 41, 50, 51, 52, 53, 54, 55, 56, 57, 58] (by decide +kernel) (by decide +kernel)
set_option maxRecDepth 20000 in
theorem gX4_search_X3_missedOf : GoodIn wsX4_search (wsV RX4 36 RX3 yX3_missedOf wsX3_missedOf) := goodIn_app (goodIn_of _ (by decide +kernel)) ggX4_search_X3_missedOf
set_option maxRecDepth 20000 in
theorem ggX4_search_X4_keepIfBetter : GoodIn wsX4_search wsX4_keepIfBetter := goodIn_r _ [46, 3, 1, 2, 47, 48, 49] (by decide +kernel) (by decide +kernel)
set_option maxRecDepth 20000 in
theorem gX4_search_X4_keepIfBetter : GoodIn wsX4_search (wsV RX4 40 RX4 yX4_keepIfBetter wsX4_keepIfBetter) := goodIn_app (goodIn_of _ (by decide +kernel)) ggX4_search_X4_keepIfBetter
theorem dX4_search_0 : decode cX4_search 0 = .ok (.aload_n 0, 1) := by decide +kernel
theorem dX4_search_1 : decode cX4_search 1 = .ok (.iconst (-1), 1) := by decide +kernel
theorem dX4_search_2 : decode cX4_search 2 = .ok (.putfield 9, 3) := by decide +kernel
theorem dX4_search_5 : decode cX4_search 5 = .ok (.aload_n 0, 1) := by decide +kernel
theorem dX4_search_6 : decode cX4_search 6 = .ok (.iconst (-1), 1) := by decide +kernel
theorem dX4_search_7 : decode cX4_search 7 = .ok (.putfield 15, 3) := by decide +kernel
theorem dX4_search_10 : decode cX4_search 10 = .ok (.aload_n 0, 1) := by decide +kernel
theorem dX4_search_11 : decode cX4_search 11 = .ok (.iconst (-1), 1) := by decide +kernel
theorem dX4_search_12 : decode cX4_search 12 = .ok (.putfield 18, 3) := by decide +kernel
theorem dX4_search_15 : decode cX4_search 15 = .ok (.iconst 0, 1) := by decide +kernel
theorem dX4_search_16 : decode cX4_search 16 = .ok (.istore_n 2, 1) := by decide +kernel
theorem dX4_search_17 : decode cX4_search 17 = .ok (.iload_n 2, 1) := by decide +kernel
theorem dX4_search_18 : decode cX4_search 18 = .ok (.iconst 1, 1) := by decide +kernel
theorem dX4_search_19 : decode cX4_search 19 = .ok (.aload_n 1, 1) := by decide +kernel
theorem dX4_search_20 : decode cX4_search 20 = .ok (.getfield 21, 3) := by decide +kernel
theorem dX4_search_23 : decode cX4_search 23 = .ok (.ishl, 1) := by decide +kernel
theorem dX4_search_24 : decode cX4_search 24 = .ok (.if_icmp .ge 44, 3) := by decide +kernel
theorem dX4_search_27 : decode cX4_search 27 = .ok (.aload_n 1, 1) := by decide +kernel
theorem dX4_search_28 : decode cX4_search 28 = .ok (.iload_n 2, 1) := by decide +kernel
theorem dX4_search_29 : decode cX4_search 29 = .ok (.invokevirtual 26, 3) := by decide +kernel
theorem dX4_search_32 : decode cX4_search 32 = .ok (.istore_n 3, 1) := by decide +kernel
theorem dX4_search_33 : decode cX4_search 33 = .ok (.iload_n 2, 1) := by decide +kernel
theorem dX4_search_34 : decode cX4_search 34 = .ok (.aload_n 1, 1) := by decide +kernel
theorem dX4_search_35 : decode cX4_search 35 = .ok (.getfield 30, 3) := by decide +kernel
theorem dX4_search_38 : decode cX4_search 38 = .ok (.iand, 1) := by decide +kernel
theorem dX4_search_39 : decode cX4_search 39 = .ok (.ifCond .ne 23, 3) := by decide +kernel
theorem dX4_search_42 : decode cX4_search 42 = .ok (.iload_n 3, 1) := by decide +kernel
theorem dX4_search_43 : decode cX4_search 43 = .ok (.aload_n 1, 1) := by decide +kernel
theorem dX4_search_44 : decode cX4_search 44 = .ok (.getfield 33, 3) := by decide +kernel
theorem dX4_search_47 : decode cX4_search 47 = .ok (.if_icmp .lt 15, 3) := by decide +kernel
theorem dX4_search_50 : decode cX4_search 50 = .ok (.aload_n 0, 1) := by decide +kernel
theorem dX4_search_51 : decode cX4_search 51 = .ok (.iload_n 2, 1) := by decide +kernel
theorem dX4_search_52 : decode cX4_search 52 = .ok (.iload_n 3, 1) := by decide +kernel
theorem dX4_search_53 : decode cX4_search 53 = .ok (.aload_n 1, 1) := by decide +kernel
theorem dX4_search_54 : decode cX4_search 54 = .ok (.iload_n 2, 1) := by decide +kernel
theorem dX4_search_55 : decode cX4_search 55 = .ok (.iconst 0, 1) := by decide +kernel
theorem dX4_search_56 : decode cX4_search 56 = .ok (.invokevirtual 36, 3) := by decide +kernel
theorem dX4_search_59 : decode cX4_search 59 = .ok (.invokevirtual 40, 3) := by decide +kernel
theorem dX4_search_62 : decode cX4_search 62 = .ok (.iinc 2 1, 3) := by decide +kernel
theorem dX4_search_65 : decode cX4_search 65 = .ok (.goto (-48), 3) := by decide +kernel
theorem dX4_search_68 : decode cX4_search 68 = .ok (.return_, 1) := by decide +kernel
theorem dX4_keepIfBetter_0 : decode cX4_keepIfBetter 0 = .ok (.aload_n 0, 1) := by decide +kernel
theorem dX4_keepIfBetter_1 : decode cX4_keepIfBetter 1 = .ok (.getfield 18, 3) := by decide +kernel
theorem dX4_keepIfBetter_4 : decode cX4_keepIfBetter 4 = .ok (.iconst (-1), 1) := by decide +kernel
theorem dX4_keepIfBetter_5 : decode cX4_keepIfBetter 5 = .ok (.if_icmp .eq 27, 3) := by decide +kernel
theorem dX4_keepIfBetter_8 : decode cX4_keepIfBetter 8 = .ok (.iload_n 3, 1) := by decide +kernel
theorem dX4_keepIfBetter_9 : decode cX4_keepIfBetter 9 = .ok (.aload_n 0, 1) := by decide +kernel
theorem dX4_keepIfBetter_10 : decode cX4_keepIfBetter 10 = .ok (.getfield 9, 3) := by decide +kernel
theorem dX4_keepIfBetter_13 : decode cX4_keepIfBetter 13 = .ok (.if_icmp .lt 19, 3) := by decide +kernel
theorem dX4_keepIfBetter_16 : decode cX4_keepIfBetter 16 = .ok (.iload_n 3, 1) := by decide +kernel
theorem dX4_keepIfBetter_17 : decode cX4_keepIfBetter 17 = .ok (.aload_n 0, 1) := by decide +kernel
theorem dX4_keepIfBetter_18 : decode cX4_keepIfBetter 18 = .ok (.getfield 9, 3) := by decide +kernel
theorem dX4_keepIfBetter_21 : decode cX4_keepIfBetter 21 = .ok (.if_icmp .ne 26, 3) := by decide +kernel
theorem dX4_keepIfBetter_24 : decode cX4_keepIfBetter 24 = .ok (.iload_n 2, 1) := by decide +kernel
theorem dX4_keepIfBetter_25 : decode cX4_keepIfBetter 25 = .ok (.aload_n 0, 1) := by decide +kernel
theorem dX4_keepIfBetter_26 : decode cX4_keepIfBetter 26 = .ok (.getfield 15, 3) := by decide +kernel
theorem dX4_keepIfBetter_29 : decode cX4_keepIfBetter 29 = .ok (.if_icmp .ge 18, 3) := by decide +kernel
theorem dX4_keepIfBetter_32 : decode cX4_keepIfBetter 32 = .ok (.aload_n 0, 1) := by decide +kernel
theorem dX4_keepIfBetter_33 : decode cX4_keepIfBetter 33 = .ok (.iload_n 3, 1) := by decide +kernel
theorem dX4_keepIfBetter_34 : decode cX4_keepIfBetter 34 = .ok (.putfield 9, 3) := by decide +kernel
theorem dX4_keepIfBetter_37 : decode cX4_keepIfBetter 37 = .ok (.aload_n 0, 1) := by decide +kernel
theorem dX4_keepIfBetter_38 : decode cX4_keepIfBetter 38 = .ok (.iload_n 2, 1) := by decide +kernel
theorem dX4_keepIfBetter_39 : decode cX4_keepIfBetter 39 = .ok (.putfield 15, 3) := by decide +kernel
theorem dX4_keepIfBetter_42 : decode cX4_keepIfBetter 42 = .ok (.aload_n 0, 1) := by decide +kernel
theorem dX4_keepIfBetter_43 : decode cX4_keepIfBetter 43 = .ok (.iload_n 1, 1) := by decide +kernel
theorem dX4_keepIfBetter_44 : decode cX4_keepIfBetter 44 = .ok (.putfield 18, 3) := by decide +kernel
theorem dX4_keepIfBetter_47 : decode cX4_keepIfBetter 47 = .ok (.return_, 1) := by decide +kernel
