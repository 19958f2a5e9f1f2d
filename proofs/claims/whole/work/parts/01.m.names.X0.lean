theorem dX0_init_0 : decode cX0_init 0 = .ok (.aload_n 0, 1) := by decide +kernel
theorem dX0_init_1 : decode cX0_init 1 = .ok (.invokespecial 3, 3) := by decide +kernel
theorem dX0_init_4 : decode cX0_init 4 = .ok (.aload_n 0, 1) := by decide +kernel
theorem dX0_init_5 : decode cX0_init 5 = .ok (.sipush 128, 3) := by decide +kernel
theorem dX0_init_8 : decode cX0_init 8 = .ok (.newarray .int, 2) := by decide +kernel
theorem dX0_init_10 : decode cX0_init 10 = .ok (.putfield 9, 3) := by decide +kernel
theorem dX0_init_13 : decode cX0_init 13 = .ok (.aload_n 0, 1) := by decide +kernel
theorem dX0_init_14 : decode cX0_init 14 = .ok (.bipush 7, 2) := by decide +kernel
theorem dX0_init_16 : decode cX0_init 16 = .ok (.newarray .int, 2) := by decide +kernel
theorem dX0_init_18 : decode cX0_init 18 = .ok (.putfield 15, 3) := by decide +kernel
theorem dX0_init_21 : decode cX0_init 21 = .ok (.return_, 1) := by decide +kernel
set_option maxRecDepth 20000 in
theorem ggX0_mostOf_X8_isIn : GoodIn wsX0_mostOf wsX8_isIn := goodIn_r _ [8] (by decide +kernel) (by decide +kernel)
set_option maxRecDepth 20000 in
theorem gX0_mostOf_X8_isIn_n28 : GoodIn wsX0_mostOf (wsX8_isIn) := ggX0_mostOf_X8_isIn
set_option maxRecDepth 20000 in
theorem ggX0_mostOf_X0_mostBehind : GoodIn wsX0_mostOf wsX0_mostBehind := goodIn_r _ [13, 2, 1, 4, 5, 14, 15, 16, 17, 18, 19, 20, 21, 22, 23, 24, 6, 7, 8, 25, 26, 12, 27, 28, 29, 30, 31, 35, 36, 37, 38, 39, 40, 41, 42, 43, 32, 33, 34] (by decide +kernel) (by decide +kernel)
set_option maxRecDepth 20000 in
theorem gX0_mostOf_X0_mostBehind : GoodIn wsX0_mostOf (wsV RX0 32 RX0 yX0_mostBehind wsX0_mostBehind) := goodIn_app (goodIn_of _ (by decide +kernel)) ggX0_mostOf_X0_mostBehind
theorem dX0_mostOf_0 : decode cX0_mostOf 0 = .ok (.aload_n 0, 1) := by decide +kernel
theorem dX0_mostOf_1 : decode cX0_mostOf 1 = .ok (.iconst 0, 1) := by decide +kernel
theorem dX0_mostOf_2 : decode cX0_mostOf 2 = .ok (.putfield 18, 3) := by decide +kernel
theorem dX0_mostOf_5 : decode cX0_mostOf 5 = .ok (.iconst 0, 1) := by decide +kernel
theorem dX0_mostOf_6 : decode cX0_mostOf 6 = .ok (.istore_n 2, 1) := by decide +kernel
theorem dX0_mostOf_7 : decode cX0_mostOf 7 = .ok (.iload_n 2, 1) := by decide +kernel
theorem dX0_mostOf_8 : decode cX0_mostOf 8 = .ok (.aload_n 1, 1) := by decide +kernel
theorem dX0_mostOf_9 : decode cX0_mostOf 9 = .ok (.getfield 22, 3) := by decide +kernel
theorem dX0_mostOf_12 : decode cX0_mostOf 12 = .ok (.if_icmp .ge 40, 3) := by decide +kernel
theorem dX0_mostOf_15 : decode cX0_mostOf 15 = .ok (.aload_n 1, 1) := by decide +kernel
theorem dX0_mostOf_16 : decode cX0_mostOf 16 = .ok (.getfield 25, 3) := by decide +kernel
theorem dX0_mostOf_19 : decode cX0_mostOf 19 = .ok (.iload_n 2, 1) := by decide +kernel
theorem dX0_mostOf_20 : decode cX0_mostOf 20 = .ok (.invokestatic 28, 3) := by decide +kernel
theorem dX0_mostOf_23 : decode cX0_mostOf 23 = .ok (.ifCond .eq 23, 3) := by decide +kernel
theorem dX0_mostOf_26 : decode cX0_mostOf 26 = .ok (.aload_n 0, 1) := by decide +kernel
theorem dX0_mostOf_27 : decode cX0_mostOf 27 = .ok (.getfield 15, 3) := by decide +kernel
theorem dX0_mostOf_30 : decode cX0_mostOf 30 = .ok (.aload_n 0, 1) := by decide +kernel
theorem dX0_mostOf_31 : decode cX0_mostOf 31 = .ok (.getfield 18, 3) := by decide +kernel
theorem dX0_mostOf_34 : decode cX0_mostOf 34 = .ok (.iload_n 2, 1) := by decide +kernel
theorem dX0_mostOf_35 : decode cX0_mostOf 35 = .ok (.iastore, 1) := by decide +kernel
theorem dX0_mostOf_36 : decode cX0_mostOf 36 = .ok (.aload_n 0, 1) := by decide +kernel
theorem dX0_mostOf_37 : decode cX0_mostOf 37 = .ok (.dup, 1) := by decide +kernel
theorem dX0_mostOf_38 : decode cX0_mostOf 38 = .ok (.getfield 18, 3) := by decide +kernel
theorem dX0_mostOf_41 : decode cX0_mostOf 41 = .ok (.iconst 1, 1) := by decide +kernel
theorem dX0_mostOf_42 : decode cX0_mostOf 42 = .ok (.iadd, 1) := by decide +kernel
theorem dX0_mostOf_43 : decode cX0_mostOf 43 = .ok (.putfield 18, 3) := by decide +kernel
theorem dX0_mostOf_46 : decode cX0_mostOf 46 = .ok (.iinc 2 1, 3) := by decide +kernel
theorem dX0_mostOf_49 : decode cX0_mostOf 49 = .ok (.goto (-42), 3) := by decide +kernel
theorem dX0_mostOf_52 : decode cX0_mostOf 52 = .ok (.iconst 1, 1) := by decide +kernel
theorem dX0_mostOf_53 : decode cX0_mostOf 53 = .ok (.aload_n 1, 1) := by decide +kernel
theorem dX0_mostOf_54 : decode cX0_mostOf 54 = .ok (.getfield 22, 3) := by decide +kernel
theorem dX0_mostOf_57 : decode cX0_mostOf 57 = .ok (.ishl, 1) := by decide +kernel
theorem dX0_mostOf_58 : decode cX0_mostOf 58 = .ok (.iconst 1, 1) := by decide +kernel
theorem dX0_mostOf_59 : decode cX0_mostOf 59 = .ok (.isub, 1) := by decide +kernel
theorem dX0_mostOf_60 : decode cX0_mostOf 60 = .ok (.istore_n 2, 1) := by decide +kernel
theorem dX0_mostOf_61 : decode cX0_mostOf 61 = .ok (.iload_n 2, 1) := by decide +kernel
theorem dX0_mostOf_62 : decode cX0_mostOf 62 = .ok (.ifCond .lt 21, 3) := by decide +kernel
theorem dX0_mostOf_65 : decode cX0_mostOf 65 = .ok (.aload_n 0, 1) := by decide +kernel
theorem dX0_mostOf_66 : decode cX0_mostOf 66 = .ok (.getfield 9, 3) := by decide +kernel
theorem dX0_mostOf_69 : decode cX0_mostOf 69 = .ok (.iload_n 2, 1) := by decide +kernel
theorem dX0_mostOf_70 : decode cX0_mostOf 70 = .ok (.aload_n 0, 1) := by decide +kernel
theorem dX0_mostOf_71 : decode cX0_mostOf 71 = .ok (.aload_n 1, 1) := by decide +kernel
theorem dX0_mostOf_72 : decode cX0_mostOf 72 = .ok (.iload_n 2, 1) := by decide +kernel
theorem dX0_mostOf_73 : decode cX0_mostOf 73 = .ok (.invokevirtual 32, 3) := by decide +kernel
theorem dX0_mostOf_76 : decode cX0_mostOf 76 = .ok (.iastore, 1) := by decide +kernel
theorem dX0_mostOf_77 : decode cX0_mostOf 77 = .ok (.iinc 2 (-1), 3) := by decide +kernel
theorem dX0_mostOf_80 : decode cX0_mostOf 80 = .ok (.goto (-19), 3) := by decide +kernel
theorem dX0_mostOf_83 : decode cX0_mostOf 83 = .ok (.aload_n 0, 1) := by decide +kernel
theorem dX0_mostOf_84 : decode cX0_mostOf 84 = .ok (.getfield 9, 3) := by decide +kernel
theorem dX0_mostOf_87 : decode cX0_mostOf 87 = .ok (.iconst 0, 1) := by decide +kernel
theorem dX0_mostOf_88 : decode cX0_mostOf 88 = .ok (.iaload, 1) := by decide +kernel
theorem dX0_mostOf_89 : decode cX0_mostOf 89 = .ok (.ireturn, 1) := by decide +kernel
set_option maxRecDepth 20000 in
theorem ggX0_buyerOf_X0_mostOf : GoodIn wsX0_buyerOf wsX0_mostOf := goodIn_r _ [7, 1, 8, 9, 2, 10, 11, 12, 13, 14, 15, 16, 6, 17, 18, 19, 20, 21, 22, 23, 24, 25, 26, 27, 28, 29, 30, 31, 32, 33, 34, 35, 40, 41, 42, 43, 44, 45, 46, 47, 48, 49, 50, 51] (by decide +kernel) (by decide +kernel)
set_option maxRecDepth 20000 in
theorem gX0_buyerOf_X0_mostOf : GoodIn wsX0_buyerOf (wsV RX0 36 RX0 yX0_mostOf wsX0_mostOf) := goodIn_app (goodIn_of _ (by decide +kernel)) ggX0_buyerOf_X0_mostOf
set_option maxRecDepth 20000 in
theorem ggX0_buyerOf_X0_firstBuyer : GoodIn wsX0_buyerOf wsX0_firstBuyer := goodIn_r _ [39, 8, 10, 11, 12, 13, 29, 30, 6, 31, 32, 33, 34, 20, 35, 43, 44, 45, 46, 47, 48, 49, 50, 51, 40, 41, 42] (by decide +kernel) (by decide +kernel)
set_option maxRecDepth 20000 in
theorem gX0_buyerOf_X0_firstBuyer : GoodIn wsX0_buyerOf (wsV RX0 40 RX0 yX0_firstBuyer wsX0_firstBuyer) := goodIn_app (goodIn_of _ (by decide +kernel)) ggX0_buyerOf_X0_firstBuyer
theorem dX0_buyerOf_0 : decode cX0_buyerOf 0 = .ok (.aload_n 0, 1) := by decide +kernel
theorem dX0_buyerOf_1 : decode cX0_buyerOf 1 = .ok (.aload_n 1, 1) := by decide +kernel
theorem dX0_buyerOf_2 : decode cX0_buyerOf 2 = .ok (.invokevirtual 36, 3) := by decide +kernel
theorem dX0_buyerOf_5 : decode cX0_buyerOf 5 = .ok (.pop, 1) := by decide +kernel
theorem dX0_buyerOf_6 : decode cX0_buyerOf 6 = .ok (.iconst 0, 1) := by decide +kernel
theorem dX0_buyerOf_7 : decode cX0_buyerOf 7 = .ok (.istore_n 3, 1) := by decide +kernel
theorem dX0_buyerOf_8 : decode cX0_buyerOf 8 = .ok (.iconst 0, 1) := by decide +kernel
theorem dX0_buyerOf_9 : decode cX0_buyerOf 9 = .ok (.istore 4, 2) := by decide +kernel
theorem dX0_buyerOf_11 : decode cX0_buyerOf 11 = .ok (.iload 4, 2) := by decide +kernel
theorem dX0_buyerOf_13 : decode cX0_buyerOf 13 = .ok (.aload_n 0, 1) := by decide +kernel
theorem dX0_buyerOf_14 : decode cX0_buyerOf 14 = .ok (.getfield 18, 3) := by decide +kernel
theorem dX0_buyerOf_17 : decode cX0_buyerOf 17 = .ok (.if_icmp .ge 45, 3) := by decide +kernel
theorem dX0_buyerOf_20 : decode cX0_buyerOf 20 = .ok (.aload_n 0, 1) := by decide +kernel
theorem dX0_buyerOf_21 : decode cX0_buyerOf 21 = .ok (.aload_n 1, 1) := by decide +kernel
theorem dX0_buyerOf_22 : decode cX0_buyerOf 22 = .ok (.iload_n 3, 1) := by decide +kernel
theorem dX0_buyerOf_23 : decode cX0_buyerOf 23 = .ok (.aload_n 0, 1) := by decide +kernel
theorem dX0_buyerOf_24 : decode cX0_buyerOf 24 = .ok (.getfield 15, 3) := by decide +kernel
theorem dX0_buyerOf_27 : decode cX0_buyerOf 27 = .ok (.iload 4, 2) := by decide +kernel
theorem dX0_buyerOf_29 : decode cX0_buyerOf 29 = .ok (.iaload, 1) := by decide +kernel
theorem dX0_buyerOf_30 : decode cX0_buyerOf 30 = .ok (.invokevirtual 40, 3) := by decide +kernel
theorem dX0_buyerOf_33 : decode cX0_buyerOf 33 = .ok (.istore 5, 2) := by decide +kernel
theorem dX0_buyerOf_35 : decode cX0_buyerOf 35 = .ok (.aload_n 0, 1) := by decide +kernel
theorem dX0_buyerOf_36 : decode cX0_buyerOf 36 = .ok (.getfield 15, 3) := by decide +kernel
theorem dX0_buyerOf_39 : decode cX0_buyerOf 39 = .ok (.iload 4, 2) := by decide +kernel
theorem dX0_buyerOf_41 : decode cX0_buyerOf 41 = .ok (.iaload, 1) := by decide +kernel
theorem dX0_buyerOf_42 : decode cX0_buyerOf 42 = .ok (.iload_n 2, 1) := by decide +kernel
theorem dX0_buyerOf_43 : decode cX0_buyerOf 43 = .ok (.if_icmp .ne 6, 3) := by decide +kernel
theorem dX0_buyerOf_46 : decode cX0_buyerOf 46 = .ok (.iload 5, 2) := by decide +kernel
theorem dX0_buyerOf_48 : decode cX0_buyerOf 48 = .ok (.ireturn, 1) := by decide +kernel
theorem dX0_buyerOf_49 : decode cX0_buyerOf 49 = .ok (.iload_n 3, 1) := by decide +kernel
theorem dX0_buyerOf_50 : decode cX0_buyerOf 50 = .ok (.iconst 1, 1) := by decide +kernel
theorem dX0_buyerOf_51 : decode cX0_buyerOf 51 = .ok (.iload 5, 2) := by decide +kernel
theorem dX0_buyerOf_53 : decode cX0_buyerOf 53 = .ok (.ishl, 1) := by decide +kernel
theorem dX0_buyerOf_54 : decode cX0_buyerOf 54 = .ok (.ior, 1) := by decide +kernel
theorem dX0_buyerOf_55 : decode cX0_buyerOf 55 = .ok (.istore_n 3, 1) := by decide +kernel
theorem dX0_buyerOf_56 : decode cX0_buyerOf 56 = .ok (.iinc 4 1, 3) := by decide +kernel
theorem dX0_buyerOf_59 : decode cX0_buyerOf 59 = .ok (.goto (-48), 3) := by decide +kernel
theorem dX0_buyerOf_62 : decode cX0_buyerOf 62 = .ok (.iconst (-1), 1) := by decide +kernel
theorem dX0_buyerOf_63 : decode cX0_buyerOf 63 = .ok (.ireturn, 1) := by decide +kernel
set_option maxRecDepth 20000 in
theorem ggX0_mostBehind_J6_bitCount_0f7a4 : GoodIn wsX0_mostBehind wsJ6_bitCount_0f7a4 := goodIn_r _ [12, 13, 14, 15] (by decide +kernel) (by decide +kernel)
set_option maxRecDepth 20000 in
theorem gX0_mostBehind_J6_bitCount_0f7a4 : GoodIn wsX0_mostBehind (va_wsS RX0 44 yJ6_bitCount_0f7a4 wsJ6_bitCount_0f7a4) := goodIn_app (goodIn_of _ (by decide +kernel)) ggX0_mostBehind_J6_bitCount_0f7a4
set_option maxRecDepth 20000 in
theorem ggX0_mostBehind_X8_isIn : GoodIn wsX0_mostBehind wsX8_isIn := goodIn_r _ [18] (by decide +kernel) (by decide +kernel)
set_option maxRecDepth 20000 in
theorem gX0_mostBehind_X8_isIn_n28 : GoodIn wsX0_mostBehind (wsX8_isIn) := ggX0_mostBehind_X8_isIn
set_option maxRecDepth 20000 in
theorem ggX0_mostBehind_X0_wanted : GoodIn wsX0_mostBehind wsX0_wanted := goodIn_r _ [22, 23, 24, 25, 7, 26, 27, 28, 29, 30, 31, 32, 33, 34, 35] (by decide +kernel) (by decide +kernel)
set_option maxRecDepth 20000 in
theorem gX0_mostBehind_X0_wanted : GoodIn wsX0_mostBehind (va_wsS RX0 50 yX0_wanted wsX0_wanted) := goodIn_app (goodIn_of _ (by decide +kernel)) ggX0_mostBehind_X0_wanted
theorem dX0_mostBehind_0 : decode cX0_mostBehind 0 = .ok (.iload_n 2, 1) := by decide +kernel
theorem dX0_mostBehind_1 : decode cX0_mostBehind 1 = .ok (.invokestatic 44, 3) := by decide +kernel
theorem dX0_mostBehind_4 : decode cX0_mostBehind 4 = .ok (.istore_n 3, 1) := by decide +kernel
theorem dX0_mostBehind_5 : decode cX0_mostBehind 5 = .ok (.iconst 0, 1) := by decide +kernel
theorem dX0_mostBehind_6 : decode cX0_mostBehind 6 = .ok (.istore 4, 2) := by decide +kernel
theorem dX0_mostBehind_8 : decode cX0_mostBehind 8 = .ok (.iconst 0, 1) := by decide +kernel
theorem dX0_mostBehind_9 : decode cX0_mostBehind 9 = .ok (.istore 5, 2) := by decide +kernel
theorem dX0_mostBehind_11 : decode cX0_mostBehind 11 = .ok (.iload 5, 2) := by decide +kernel
theorem dX0_mostBehind_13 : decode cX0_mostBehind 13 = .ok (.aload_n 1, 1) := by decide +kernel
theorem dX0_mostBehind_14 : decode cX0_mostBehind 14 = .ok (.getfield 22, 3) := by decide +kernel
theorem dX0_mostBehind_17 : decode cX0_mostBehind 17 = .ok (.if_icmp .ge 57, 3) := by decide +kernel
theorem dX0_mostBehind_20 : decode cX0_mostBehind 20 = .ok (.iload_n 3, 1) := by decide +kernel
theorem dX0_mostBehind_21 : decode cX0_mostBehind 21 = .ok (.aload_n 0, 1) := by decide +kernel
theorem dX0_mostBehind_22 : decode cX0_mostBehind 22 = .ok (.getfield 18, 3) := by decide +kernel
theorem dX0_mostBehind_25 : decode cX0_mostBehind 25 = .ok (.if_icmp .ge 49, 3) := by decide +kernel
theorem dX0_mostBehind_28 : decode cX0_mostBehind 28 = .ok (.iload_n 2, 1) := by decide +kernel
theorem dX0_mostBehind_29 : decode cX0_mostBehind 29 = .ok (.iload 5, 2) := by decide +kernel
theorem dX0_mostBehind_31 : decode cX0_mostBehind 31 = .ok (.invokestatic 28, 3) := by decide +kernel
theorem dX0_mostBehind_34 : decode cX0_mostBehind 34 = .ok (.ifCond .ne 34, 3) := by decide +kernel
theorem dX0_mostBehind_37 : decode cX0_mostBehind 37 = .ok (.iload 4, 2) := by decide +kernel
theorem dX0_mostBehind_39 : decode cX0_mostBehind 39 = .ok (.aload_n 1, 1) := by decide +kernel
theorem dX0_mostBehind_40 : decode cX0_mostBehind 40 = .ok (.aload_n 0, 1) := by decide +kernel
theorem dX0_mostBehind_41 : decode cX0_mostBehind 41 = .ok (.getfield 15, 3) := by decide +kernel
theorem dX0_mostBehind_44 : decode cX0_mostBehind 44 = .ok (.iload_n 3, 1) := by decide +kernel
theorem dX0_mostBehind_45 : decode cX0_mostBehind 45 = .ok (.iaload, 1) := by decide +kernel
theorem dX0_mostBehind_46 : decode cX0_mostBehind 46 = .ok (.iload 5, 2) := by decide +kernel
theorem dX0_mostBehind_48 : decode cX0_mostBehind 48 = .ok (.invokestatic 50, 3) := by decide +kernel
theorem dX0_mostBehind_51 : decode cX0_mostBehind 51 = .ok (.aload_n 0, 1) := by decide +kernel
theorem dX0_mostBehind_52 : decode cX0_mostBehind 52 = .ok (.getfield 9, 3) := by decide +kernel
theorem dX0_mostBehind_55 : decode cX0_mostBehind 55 = .ok (.iload_n 2, 1) := by decide +kernel
theorem dX0_mostBehind_56 : decode cX0_mostBehind 56 = .ok (.iconst 1, 1) := by decide +kernel
theorem dX0_mostBehind_57 : decode cX0_mostBehind 57 = .ok (.iload 5, 2) := by decide +kernel
theorem dX0_mostBehind_59 : decode cX0_mostBehind 59 = .ok (.ishl, 1) := by decide +kernel
theorem dX0_mostBehind_60 : decode cX0_mostBehind 60 = .ok (.ior, 1) := by decide +kernel
theorem dX0_mostBehind_61 : decode cX0_mostBehind 61 = .ok (.iaload, 1) := by decide +kernel
theorem dX0_mostBehind_62 : decode cX0_mostBehind 62 = .ok (.iadd, 1) := by decide +kernel
theorem dX0_mostBehind_63 : decode cX0_mostBehind 63 = .ok (.invokestatic 53, 3) := by decide +kernel
theorem dX0_mostBehind_66 : decode cX0_mostBehind 66 = .ok (.istore 4, 2) := by decide +kernel
theorem dX0_mostBehind_68 : decode cX0_mostBehind 68 = .ok (.iinc 5 1, 3) := by decide +kernel
theorem dX0_mostBehind_71 : decode cX0_mostBehind 71 = .ok (.goto (-60), 3) := by decide +kernel
theorem dX0_mostBehind_74 : decode cX0_mostBehind 74 = .ok (.iload 4, 2) := by decide +kernel
theorem dX0_mostBehind_76 : decode cX0_mostBehind 76 = .ok (.ireturn, 1) := by decide +kernel
set_option maxRecDepth 20000 in
theorem ggX0_firstBuyer_X8_isIn : GoodIn wsX0_firstBuyer wsX8_isIn := goodIn_r _ [5] (by decide +kernel) (by decide +kernel)
set_option maxRecDepth 20000 in
theorem gX0_firstBuyer_X8_isIn_n28 : GoodIn wsX0_firstBuyer (wsX8_isIn) := ggX0_firstBuyer_X8_isIn
set_option maxRecDepth 20000 in
theorem ggX0_firstBuyer_X0_wanted : GoodIn wsX0_firstBuyer wsX0_wanted := goodIn_r _ [9, 10, 11, 12, 13, 14, 15, 16, 17, 18, 19, 20, 21, 22, 23] (by decide +kernel) (by decide +kernel)
set_option maxRecDepth 20000 in
theorem gX0_firstBuyer_X0_wanted : GoodIn wsX0_firstBuyer (va_wsS RX0 50 yX0_wanted wsX0_wanted) := goodIn_app (goodIn_of _ (by decide +kernel)) ggX0_firstBuyer_X0_wanted
theorem dX0_firstBuyer_0 : decode cX0_firstBuyer 0 = .ok (.iconst 0, 1) := by decide +kernel
theorem dX0_firstBuyer_1 : decode cX0_firstBuyer 1 = .ok (.istore 4, 2) := by decide +kernel
theorem dX0_firstBuyer_3 : decode cX0_firstBuyer 3 = .ok (.iload 4, 2) := by decide +kernel
theorem dX0_firstBuyer_5 : decode cX0_firstBuyer 5 = .ok (.aload_n 1, 1) := by decide +kernel
theorem dX0_firstBuyer_6 : decode cX0_firstBuyer 6 = .ok (.getfield 22, 3) := by decide +kernel
theorem dX0_firstBuyer_9 : decode cX0_firstBuyer 9 = .ok (.if_icmp .ge 49, 3) := by decide +kernel
theorem dX0_firstBuyer_12 : decode cX0_firstBuyer 12 = .ok (.iload_n 2, 1) := by decide +kernel
theorem dX0_firstBuyer_13 : decode cX0_firstBuyer 13 = .ok (.iload 4, 2) := by decide +kernel
theorem dX0_firstBuyer_15 : decode cX0_firstBuyer 15 = .ok (.invokestatic 28, 3) := by decide +kernel
theorem dX0_firstBuyer_18 : decode cX0_firstBuyer 18 = .ok (.ifCond .ne 34, 3) := by decide +kernel
theorem dX0_firstBuyer_21 : decode cX0_firstBuyer 21 = .ok (.aload_n 1, 1) := by decide +kernel
theorem dX0_firstBuyer_22 : decode cX0_firstBuyer 22 = .ok (.iload_n 3, 1) := by decide +kernel
theorem dX0_firstBuyer_23 : decode cX0_firstBuyer 23 = .ok (.iload 4, 2) := by decide +kernel
theorem dX0_firstBuyer_25 : decode cX0_firstBuyer 25 = .ok (.invokestatic 50, 3) := by decide +kernel
theorem dX0_firstBuyer_28 : decode cX0_firstBuyer 28 = .ok (.aload_n 0, 1) := by decide +kernel
theorem dX0_firstBuyer_29 : decode cX0_firstBuyer 29 = .ok (.getfield 9, 3) := by decide +kernel
theorem dX0_firstBuyer_32 : decode cX0_firstBuyer 32 = .ok (.iload_n 2, 1) := by decide +kernel
theorem dX0_firstBuyer_33 : decode cX0_firstBuyer 33 = .ok (.iconst 1, 1) := by decide +kernel
theorem dX0_firstBuyer_34 : decode cX0_firstBuyer 34 = .ok (.iload 4, 2) := by decide +kernel
theorem dX0_firstBuyer_36 : decode cX0_firstBuyer 36 = .ok (.ishl, 1) := by decide +kernel
theorem dX0_firstBuyer_37 : decode cX0_firstBuyer 37 = .ok (.ior, 1) := by decide +kernel
theorem dX0_firstBuyer_38 : decode cX0_firstBuyer 38 = .ok (.iaload, 1) := by decide +kernel
theorem dX0_firstBuyer_39 : decode cX0_firstBuyer 39 = .ok (.iadd, 1) := by decide +kernel
theorem dX0_firstBuyer_40 : decode cX0_firstBuyer 40 = .ok (.aload_n 0, 1) := by decide +kernel
theorem dX0_firstBuyer_41 : decode cX0_firstBuyer 41 = .ok (.getfield 9, 3) := by decide +kernel
theorem dX0_firstBuyer_44 : decode cX0_firstBuyer 44 = .ok (.iload_n 2, 1) := by decide +kernel
theorem dX0_firstBuyer_45 : decode cX0_firstBuyer 45 = .ok (.iaload, 1) := by decide +kernel
theorem dX0_firstBuyer_46 : decode cX0_firstBuyer 46 = .ok (.if_icmp .ne 6, 3) := by decide +kernel
theorem dX0_firstBuyer_49 : decode cX0_firstBuyer 49 = .ok (.iload 4, 2) := by decide +kernel
theorem dX0_firstBuyer_51 : decode cX0_firstBuyer 51 = .ok (.ireturn, 1) := by decide +kernel
theorem dX0_firstBuyer_52 : decode cX0_firstBuyer 52 = .ok (.iinc 4 1, 3) := by decide +kernel
theorem dX0_firstBuyer_55 : decode cX0_firstBuyer 55 = .ok (.goto (-52), 3) := by decide +kernel
theorem dX0_firstBuyer_58 : decode cX0_firstBuyer 58 = .ok (.iconst 0, 1) := by decide +kernel
theorem dX0_firstBuyer_59 : decode cX0_firstBuyer 59 = .ok (.ireturn, 1) := by decide +kernel
theorem dX0_wanted_0 : decode cX0_wanted 0 = .ok (.iload_n 2, 1) := by decide +kernel
theorem dX0_wanted_1 : decode cX0_wanted 1 = .ok (.iload_n 1, 1) := by decide +kernel
theorem dX0_wanted_2 : decode cX0_wanted 2 = .ok (.if_icmp .ne 12, 3) := by decide +kernel
theorem dX0_wanted_5 : decode cX0_wanted 5 = .ok (.aload_n 0, 1) := by decide +kernel
theorem dX0_wanted_6 : decode cX0_wanted 6 = .ok (.getfield 59, 3) := by decide +kernel
theorem dX0_wanted_9 : decode cX0_wanted 9 = .ok (.iload_n 1, 1) := by decide +kernel
theorem dX0_wanted_10 : decode cX0_wanted 10 = .ok (.iaload, 1) := by decide +kernel
theorem dX0_wanted_11 : decode cX0_wanted 11 = .ok (.goto 9, 3) := by decide +kernel
theorem dX0_wanted_14 : decode cX0_wanted 14 = .ok (.iload_n 2, 1) := by decide +kernel
theorem dX0_wanted_15 : decode cX0_wanted 15 = .ok (.iload_n 1, 1) := by decide +kernel
theorem dX0_wanted_16 : decode cX0_wanted 16 = .ok (.isub, 1) := by decide +kernel
theorem dX0_wanted_17 : decode cX0_wanted 17 = .ok (.invokestatic 62, 3) := by decide +kernel
theorem dX0_wanted_20 : decode cX0_wanted 20 = .ok (.ireturn, 1) := by decide +kernel
