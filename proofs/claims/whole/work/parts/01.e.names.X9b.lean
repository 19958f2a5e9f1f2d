set_option maxRecDepth 20000 in
theorem ggX9_take_X9_begin : GoodIn wsX9_take wsX9_begin := goodIn_r _ [5, 6, 7, 8, 9, 10, 11, 12, 13, 14, 15, 4, 16, 39, 40, 41, 42, 43, 44, 45, 46, 47, 48, 49, 50, 51, 52, 53, 54, 55, 56, 57, 58, 59, 60, 61, 62, 63, 64, 65, 66, 67, 68, 69, 70, 71, 72] (by decide +kernel) (by decide +kernel)
set_option maxRecDepth 20000 in
theorem gX9_take_X9_begin : GoodIn wsX9_take (wsV RX9 130 RX9 yX9_begin wsX9_begin) := goodIn_app (goodIn_of _ (by decide +kernel)) ggX9_take_X9_begin
set_option maxRecDepth 20000 in
theorem ggX9_take_X9_nextThen : GoodIn wsX9_take wsX9_nextThen := goodIn_r _ [20, 21, 13, 11, 22, 23, 24, 4, 25, 26, 7, 9, 27, 28, 29, 39, 40, 41, 42, 43, 44, 45, 46, 47, 48, 49, 50, 51, 52, 53, 54, 55, 56, 57, 58, 59, 60, 61, 62, 63, 64, 65, 66, 67, 68, 69, 70, 71, 72] (by decide +kernel) (by decide +kernel)
set_option maxRecDepth 20000 in
theorem gX9_take_X9_nextThen : GoodIn wsX9_take (wsV RX9 127 RX9 yX9_nextThen wsX9_nextThen) := goodIn_app (goodIn_of _ (by decide +kernel)) ggX9_take_X9_nextThen
set_option maxRecDepth 20000 in
theorem ggX9_take_X9_takeThen : GoodIn wsX9_take wsX9_takeThen := goodIn_r _ [33, 11, 13, 34, 17, 18, 19, 4, 20, 21, 22, 23, 24, 25, 26, 7, 9, 27, 28, 29, 39, 40, 41, 42, 43, 44, 45, 46, 47, 48, 49, 50, 51, 52, 53, 54, 55, 56, 57, 58, 59, 60, 61, 62, 63, 64, 65, 66, 67, 68, 69, 70, 71, 72] (by decide +kernel) (by decide +kernel)
set_option maxRecDepth 20000 in
theorem gX9_take_X9_takeThen : GoodIn wsX9_take (wsV RX9 165 RX9 yX9_takeThen wsX9_takeThen) := goodIn_app (goodIn_of _ (by decide +kernel)) ggX9_take_X9_takeThen
set_option maxRecDepth 20000 in
theorem ggX9_take_X9_keep : GoodIn wsX9_take wsX9_keep := goodIn_r _ [38, 7, 6, 9, 8, 11, 10, 13, 12, 14, 15, 4, 16, 39, 40, 41, 42, 43, 44, 45, 46, 47, 48, 49, 50, 51, 52, 53, 54, 55, 56, 57, 58, 59, 60, 61, 62, 63, 64, 65, 66, 67, 68, 69, 70, 71, 72] (by decide +kernel) (by decide +kernel)
set_option maxRecDepth 20000 in
theorem gX9_take_X9_keep : GoodIn wsX9_take (wsV RX9 155 RX9 yX9_keep wsX9_keep) := goodIn_app (goodIn_of _ (by decide +kernel)) ggX9_take_X9_keep
theorem dX9_take_0 : decode cX9_take 0 = .ok (.aload_n 0, 1) := by decide +kernel
theorem dX9_take_1 : decode cX9_take 1 = .ok (.invokevirtual 130, 3) := by decide +kernel
theorem dX9_take_4 : decode cX9_take 4 = .ok (.aload_n 0, 1) := by decide +kernel
theorem dX9_take_5 : decode cX9_take 5 = .ok (.invokevirtual 127, 3) := by decide +kernel
theorem dX9_take_8 : decode cX9_take 8 = .ok (.istore_n 1, 1) := by decide +kernel
theorem dX9_take_9 : decode cX9_take 9 = .ok (.iload_n 1, 1) := by decide +kernel
theorem dX9_take_10 : decode cX9_take 10 = .ok (.iconst (-1), 1) := by decide +kernel
theorem dX9_take_11 : decode cX9_take 11 = .ok (.if_icmp .ne 6, 3) := by decide +kernel
theorem dX9_take_14 : decode cX9_take 14 = .ok (.bipush (-103), 2) := by decide +kernel
theorem dX9_take_16 : decode cX9_take 16 = .ok (.ireturn, 1) := by decide +kernel
theorem dX9_take_17 : decode cX9_take 17 = .ok (.aload_n 0, 1) := by decide +kernel
theorem dX9_take_18 : decode cX9_take 18 = .ok (.invokevirtual 165, 3) := by decide +kernel
theorem dX9_take_21 : decode cX9_take 21 = .ok (.pop, 1) := by decide +kernel
theorem dX9_take_22 : decode cX9_take 22 = .ok (.aload_n 0, 1) := by decide +kernel
theorem dX9_take_23 : decode cX9_take 23 = .ok (.invokevirtual 155, 3) := by decide +kernel
theorem dX9_take_26 : decode cX9_take 26 = .ok (.iload_n 1, 1) := by decide +kernel
theorem dX9_take_27 : decode cX9_take 27 = .ok (.ireturn, 1) := by decide +kernel
set_option maxRecDepth 20000 in
theorem ggX9_redeem_X9_isThing : GoodIn wsX9_redeem wsX9_isThing := goodIn_r _ [8, 9, 10, 11, 7, 12, 13, 14, 15, 16, 17, 18, 19, 20, 21, 22, 23, 24, 25, 26, 27, 28, 29, 30, 31, 32, 33, 34, 35, 36, 37, 38, 39, 40, 41, 42, 43, 44, 45, 46] (by decide +kernel) (by decide +kernel)
set_option maxRecDepth 20000 in
theorem gX9_redeem_X9_isThing : GoodIn wsX9_redeem (wsV RX9 142 RX9 yX9_isThing wsX9_isThing) := goodIn_app (goodIn_of _ (by decide +kernel)) ggX9_redeem_X9_isThing
theorem dX9_redeem_0 : decode cX9_redeem 0 = .ok (.aload_n 0, 1) := by decide +kernel
theorem dX9_redeem_1 : decode cX9_redeem 1 = .ok (.iload_n 1, 1) := by decide +kernel
theorem dX9_redeem_2 : decode cX9_redeem 2 = .ok (.invokevirtual 142, 3) := by decide +kernel
theorem dX9_redeem_5 : decode cX9_redeem 5 = .ok (.ifCond .ne 6, 3) := by decide +kernel
theorem dX9_redeem_8 : decode cX9_redeem 8 = .ok (.bipush (-101), 2) := by decide +kernel
theorem dX9_redeem_10 : decode cX9_redeem 10 = .ok (.ireturn, 1) := by decide +kernel
theorem dX9_redeem_11 : decode cX9_redeem 11 = .ok (.aload_n 0, 1) := by decide +kernel
theorem dX9_redeem_12 : decode cX9_redeem 12 = .ok (.getfield 25, 3) := by decide +kernel
theorem dX9_redeem_15 : decode cX9_redeem 15 = .ok (.iload_n 1, 1) := by decide +kernel
theorem dX9_redeem_16 : decode cX9_redeem 16 = .ok (.iaload, 1) := by decide +kernel
theorem dX9_redeem_17 : decode cX9_redeem 17 = .ok (.ifCond .ne 6, 3) := by decide +kernel
theorem dX9_redeem_20 : decode cX9_redeem 20 = .ok (.bipush (-103), 2) := by decide +kernel
theorem dX9_redeem_22 : decode cX9_redeem 22 = .ok (.ireturn, 1) := by decide +kernel
theorem dX9_redeem_23 : decode cX9_redeem 23 = .ok (.aload_n 0, 1) := by decide +kernel
theorem dX9_redeem_24 : decode cX9_redeem 24 = .ok (.getfield 98, 3) := by decide +kernel
theorem dX9_redeem_27 : decode cX9_redeem 27 = .ok (.aload_n 0, 1) := by decide +kernel
theorem dX9_redeem_28 : decode cX9_redeem 28 = .ok (.getfield 16, 3) := by decide +kernel
theorem dX9_redeem_31 : decode cX9_redeem 31 = .ok (.iload_n 1, 1) := by decide +kernel
theorem dX9_redeem_32 : decode cX9_redeem 32 = .ok (.iaload, 1) := by decide +kernel
theorem dX9_redeem_33 : decode cX9_redeem 33 = .ok (.iadd, 1) := by decide +kernel
theorem dX9_redeem_34 : decode cX9_redeem 34 = .ok (.bipush 99, 2) := by decide +kernel
theorem dX9_redeem_36 : decode cX9_redeem 36 = .ok (.if_icmp .le 6, 3) := by decide +kernel
theorem dX9_redeem_39 : decode cX9_redeem 39 = .ok (.bipush (-104), 2) := by decide +kernel
theorem dX9_redeem_41 : decode cX9_redeem 41 = .ok (.ireturn, 1) := by decide +kernel
theorem dX9_redeem_42 : decode cX9_redeem 42 = .ok (.aload_n 0, 1) := by decide +kernel
theorem dX9_redeem_43 : decode cX9_redeem 43 = .ok (.getfield 25, 3) := by decide +kernel
theorem dX9_redeem_46 : decode cX9_redeem 46 = .ok (.iload_n 1, 1) := by decide +kernel
theorem dX9_redeem_47 : decode cX9_redeem 47 = .ok (.iconst 0, 1) := by decide +kernel
theorem dX9_redeem_48 : decode cX9_redeem 48 = .ok (.iastore, 1) := by decide +kernel
theorem dX9_redeem_49 : decode cX9_redeem 49 = .ok (.aload_n 0, 1) := by decide +kernel
theorem dX9_redeem_50 : decode cX9_redeem 50 = .ok (.dup, 1) := by decide +kernel
theorem dX9_redeem_51 : decode cX9_redeem 51 = .ok (.getfield 98, 3) := by decide +kernel
theorem dX9_redeem_54 : decode cX9_redeem 54 = .ok (.aload_n 0, 1) := by decide +kernel
theorem dX9_redeem_55 : decode cX9_redeem 55 = .ok (.getfield 16, 3) := by decide +kernel
theorem dX9_redeem_58 : decode cX9_redeem 58 = .ok (.iload_n 1, 1) := by decide +kernel
theorem dX9_redeem_59 : decode cX9_redeem 59 = .ok (.iaload, 1) := by decide +kernel
theorem dX9_redeem_60 : decode cX9_redeem 60 = .ok (.iadd, 1) := by decide +kernel
theorem dX9_redeem_61 : decode cX9_redeem 61 = .ok (.putfield 98, 3) := by decide +kernel
theorem dX9_redeem_64 : decode cX9_redeem 64 = .ok (.aload_n 0, 1) := by decide +kernel
theorem dX9_redeem_65 : decode cX9_redeem 65 = .ok (.getfield 98, 3) := by decide +kernel
theorem dX9_redeem_68 : decode cX9_redeem 68 = .ok (.ireturn, 1) := by decide +kernel
set_option maxRecDepth 20000 in
theorem ggX9_borrow_X9_in : GoodIn wsX9_borrow wsX9_in := goodIn_r _ [6] (by decide +kernel) (by decide +kernel)
set_option maxRecDepth 20000 in
theorem gX9_borrow_X9_in : GoodIn wsX9_borrow (va_wsS RX9 67 yX9_in wsX9_in) := goodIn_app (goodIn_of _ (by decide +kernel)) ggX9_borrow_X9_in
set_option maxRecDepth 20000 in
theorem ggX9_borrow_X9_lacks : GoodIn wsX9_borrow wsX9_lacks := goodIn_r _ [10, 11, 12, 13, 14, 15, 16, 17, 18, 19, 20, 21, 22, 23, 24, 25, 26, 27, 28, 29, 30, 31, 32, 33, 34, 35, 36, 37, 38, 39, 40, 41, 42, 43, 44, 45] (by decide +kernel) (by decide +kernel)
set_option maxRecDepth 20000 in
theorem gX9_borrow_X9_lacks : GoodIn wsX9_borrow (wsV RX9 158 RX9 yX9_lacks wsX9_lacks) := goodIn_app (goodIn_of _ (by decide +kernel)) ggX9_borrow_X9_lacks
theorem dX9_borrow_0 : decode cX9_borrow 0 = .ok (.iload_n 1, 1) := by decide +kernel
theorem dX9_borrow_1 : decode cX9_borrow 1 = .ok (.i2l, 1) := by decide +kernel
theorem dX9_borrow_2 : decode cX9_borrow 2 = .ok (.lconst 1, 1) := by decide +kernel
theorem dX9_borrow_3 : decode cX9_borrow 3 = .ok (.ldc2_w 168, 3) := by decide +kernel
theorem dX9_borrow_6 : decode cX9_borrow 6 = .ok (.invokestatic 67, 3) := by decide +kernel
theorem dX9_borrow_9 : decode cX9_borrow 9 = .ok (.ifCond .ne 6, 3) := by decide +kernel
theorem dX9_borrow_12 : decode cX9_borrow 12 = .ok (.bipush (-102), 2) := by decide +kernel
theorem dX9_borrow_14 : decode cX9_borrow 14 = .ok (.ireturn, 1) := by decide +kernel
theorem dX9_borrow_15 : decode cX9_borrow 15 = .ok (.aload_n 0, 1) := by decide +kernel
theorem dX9_borrow_16 : decode cX9_borrow 16 = .ok (.invokevirtual 158, 3) := by decide +kernel
theorem dX9_borrow_19 : decode cX9_borrow 19 = .ok (.ifCond .eq 6, 3) := by decide +kernel
theorem dX9_borrow_22 : decode cX9_borrow 22 = .ok (.bipush (-103), 2) := by decide +kernel
theorem dX9_borrow_24 : decode cX9_borrow 24 = .ok (.ireturn, 1) := by decide +kernel
theorem dX9_borrow_25 : decode cX9_borrow 25 = .ok (.aload_n 0, 1) := by decide +kernel
theorem dX9_borrow_26 : decode cX9_borrow 26 = .ok (.getfield 98, 3) := by decide +kernel
theorem dX9_borrow_29 : decode cX9_borrow 29 = .ok (.iload_n 1, 1) := by decide +kernel
theorem dX9_borrow_30 : decode cX9_borrow 30 = .ok (.iadd, 1) := by decide +kernel
theorem dX9_borrow_31 : decode cX9_borrow 31 = .ok (.bipush 99, 2) := by decide +kernel
theorem dX9_borrow_33 : decode cX9_borrow 33 = .ok (.if_icmp .le 6, 3) := by decide +kernel
theorem dX9_borrow_36 : decode cX9_borrow 36 = .ok (.bipush (-104), 2) := by decide +kernel
theorem dX9_borrow_38 : decode cX9_borrow 38 = .ok (.ireturn, 1) := by decide +kernel
theorem dX9_borrow_39 : decode cX9_borrow 39 = .ok (.aload_n 0, 1) := by decide +kernel
theorem dX9_borrow_40 : decode cX9_borrow 40 = .ok (.dup, 1) := by decide +kernel
theorem dX9_borrow_41 : decode cX9_borrow 41 = .ok (.getfield 98, 3) := by decide +kernel
theorem dX9_borrow_44 : decode cX9_borrow 44 = .ok (.iload_n 1, 1) := by decide +kernel
theorem dX9_borrow_45 : decode cX9_borrow 45 = .ok (.iadd, 1) := by decide +kernel
theorem dX9_borrow_46 : decode cX9_borrow 46 = .ok (.putfield 98, 3) := by decide +kernel
theorem dX9_borrow_49 : decode cX9_borrow 49 = .ok (.aload_n 0, 1) := by decide +kernel
theorem dX9_borrow_50 : decode cX9_borrow 50 = .ok (.getfield 98, 3) := by decide +kernel
theorem dX9_borrow_53 : decode cX9_borrow 53 = .ok (.ireturn, 1) := by decide +kernel
set_option maxRecDepth 20000 in
theorem ggX9_change_X9_isThing : GoodIn wsX9_change wsX9_isThing := goodIn_r _ [9, 10, 11, 12, 8, 13, 14, 15, 16, 17, 18, 19, 20, 21, 22, 23, 24, 25, 26, 27, 28, 29, 30, 31, 32, 33, 34, 35, 36, 37, 38, 39, 40, 41, 42, 43, 44, 45, 46, 47] (by decide +kernel) (by decide +kernel)
set_option maxRecDepth 20000 in
theorem gX9_change_X9_isThing : GoodIn wsX9_change (wsV RX9 142 RX9 yX9_isThing wsX9_isThing) := goodIn_app (goodIn_of _ (by decide +kernel)) ggX9_change_X9_isThing
set_option maxRecDepth 20000 in
theorem ggX9_change_X9_in : GoodIn wsX9_change wsX9_in := goodIn_r _ [13] (by decide +kernel) (by decide +kernel)
set_option maxRecDepth 20000 in
theorem gX9_change_X9_in : GoodIn wsX9_change (va_wsS RX9 67 yX9_in wsX9_in) := goodIn_app (goodIn_of _ (by decide +kernel)) ggX9_change_X9_in
theorem dX9_change_0 : decode cX9_change 0 = .ok (.aload_n 0, 1) := by decide +kernel
theorem dX9_change_1 : decode cX9_change 1 = .ok (.iload_n 1, 1) := by decide +kernel
theorem dX9_change_2 : decode cX9_change 2 = .ok (.invokevirtual 142, 3) := by decide +kernel
theorem dX9_change_5 : decode cX9_change 5 = .ok (.ifCond .ne 6, 3) := by decide +kernel
theorem dX9_change_8 : decode cX9_change 8 = .ok (.bipush (-101), 2) := by decide +kernel
theorem dX9_change_10 : decode cX9_change 10 = .ok (.ireturn, 1) := by decide +kernel
theorem dX9_change_11 : decode cX9_change 11 = .ok (.iload_n 2, 1) := by decide +kernel
theorem dX9_change_12 : decode cX9_change 12 = .ok (.i2l, 1) := by decide +kernel
theorem dX9_change_13 : decode cX9_change 13 = .ok (.lconst 0, 1) := by decide +kernel
theorem dX9_change_14 : decode cX9_change 14 = .ok (.ldc2_w 149, 3) := by decide +kernel
theorem dX9_change_17 : decode cX9_change 17 = .ok (.invokestatic 67, 3) := by decide +kernel
theorem dX9_change_20 : decode cX9_change 20 = .ok (.ifCond .eq 15, 3) := by decide +kernel
theorem dX9_change_23 : decode cX9_change 23 = .ok (.iload_n 3, 1) := by decide +kernel
theorem dX9_change_24 : decode cX9_change 24 = .ok (.i2l, 1) := by decide +kernel
theorem dX9_change_25 : decode cX9_change 25 = .ok (.lconst 1, 1) := by decide +kernel
theorem dX9_change_26 : decode cX9_change 26 = .ok (.ldc2_w 170, 3) := by decide +kernel
theorem dX9_change_29 : decode cX9_change 29 = .ok (.invokestatic 67, 3) := by decide +kernel
theorem dX9_change_32 : decode cX9_change 32 = .ok (.ifCond .ne 6, 3) := by decide +kernel
theorem dX9_change_35 : decode cX9_change 35 = .ok (.bipush (-102), 2) := by decide +kernel
theorem dX9_change_37 : decode cX9_change 37 = .ok (.ireturn, 1) := by decide +kernel
theorem dX9_change_38 : decode cX9_change 38 = .ok (.aload_n 0, 1) := by decide +kernel
theorem dX9_change_39 : decode cX9_change 39 = .ok (.getfield 13, 3) := by decide +kernel
theorem dX9_change_42 : decode cX9_change 42 = .ok (.iload_n 1, 1) := by decide +kernel
theorem dX9_change_43 : decode cX9_change 43 = .ok (.iaload, 1) := by decide +kernel
theorem dX9_change_44 : decode cX9_change 44 = .ok (.istore 4, 2) := by decide +kernel
theorem dX9_change_46 : decode cX9_change 46 = .ok (.aload_n 0, 1) := by decide +kernel
theorem dX9_change_47 : decode cX9_change 47 = .ok (.getfield 13, 3) := by decide +kernel
theorem dX9_change_50 : decode cX9_change 50 = .ok (.iload_n 1, 1) := by decide +kernel
theorem dX9_change_51 : decode cX9_change 51 = .ok (.iload_n 2, 1) := by decide +kernel
theorem dX9_change_52 : decode cX9_change 52 = .ok (.iastore, 1) := by decide +kernel
theorem dX9_change_53 : decode cX9_change 53 = .ok (.aload_n 0, 1) := by decide +kernel
theorem dX9_change_54 : decode cX9_change 54 = .ok (.getfield 16, 3) := by decide +kernel
theorem dX9_change_57 : decode cX9_change 57 = .ok (.iload_n 1, 1) := by decide +kernel
theorem dX9_change_58 : decode cX9_change 58 = .ok (.iload_n 3, 1) := by decide +kernel
theorem dX9_change_59 : decode cX9_change 59 = .ok (.iastore, 1) := by decide +kernel
theorem dX9_change_60 : decode cX9_change 60 = .ok (.iload 4, 2) := by decide +kernel
theorem dX9_change_62 : decode cX9_change 62 = .ok (.ireturn, 1) := by decide +kernel
set_option maxRecDepth 20000 in
theorem ggX9_nextOf_X9_begin : GoodIn wsX9_nextOf wsX9_begin := goodIn_r _ [5, 6, 7, 8, 9, 10, 11, 12, 13, 14, 15, 4, 16, 34, 35, 36, 37, 38, 39, 40, 41, 42, 43, 44, 45, 46, 47, 48, 49, 50, 51, 52, 53, 54, 55, 56, 57, 58, 59, 60, 61, 62, 63, 64, 65, 66, 67] (by decide +kernel) (by decide +kernel)
set_option maxRecDepth 20000 in
theorem gX9_nextOf_X9_begin : GoodIn wsX9_nextOf (wsV RX9 130 RX9 yX9_begin wsX9_begin) := goodIn_app (goodIn_of _ (by decide +kernel)) ggX9_nextOf_X9_begin
set_option maxRecDepth 20000 in
theorem ggX9_nextOf_X9_dayThen : GoodIn wsX9_nextOf wsX9_dayThen := goodIn_r _ [20, 21, 9, 11, 34, 35, 36, 37, 38, 39, 40, 41, 42, 43, 44, 45, 46, 47, 48, 49, 50, 51, 52, 53, 54, 55, 56, 57, 58, 59, 60, 61, 62, 63, 64, 65, 66, 67] (by decide +kernel) (by decide +kernel)
set_option maxRecDepth 20000 in
theorem gX9_nextOf_X9_dayThen : GoodIn wsX9_nextOf (wsV RX9 162 RX9 yX9_dayThen wsX9_dayThen) := goodIn_app (goodIn_of _ (by decide +kernel)) ggX9_nextOf_X9_dayThen
set_option maxRecDepth 20000 in
theorem ggX9_nextOf_X9_nextThen : GoodIn wsX9_nextOf wsX9_nextThen := goodIn_r _ [25, 21, 13, 11, 26, 27, 28, 4, 29, 30, 7, 9, 31, 32, 33, 34, 35, 36, 37, 38, 39, 40, 41, 42, 43, 44, 45, 46, 47, 48, 49, 50, 51, 52, 53, 54, 55, 56, 57, 58, 59, 60, 61, 62, 63, 64, 65, 66, 67] (by decide +kernel) (by decide +kernel)
set_option maxRecDepth 20000 in
theorem gX9_nextOf_X9_nextThen : GoodIn wsX9_nextOf (wsV RX9 127 RX9 yX9_nextThen wsX9_nextThen) := goodIn_app (goodIn_of _ (by decide +kernel)) ggX9_nextOf_X9_nextThen
theorem dX9_nextOf_0 : decode cX9_nextOf 0 = .ok (.aload_n 0, 1) := by decide +kernel
theorem dX9_nextOf_1 : decode cX9_nextOf 1 = .ok (.invokevirtual 130, 3) := by decide +kernel
theorem dX9_nextOf_4 : decode cX9_nextOf 4 = .ok (.iconst 0, 1) := by decide +kernel
theorem dX9_nextOf_5 : decode cX9_nextOf 5 = .ok (.istore_n 2, 1) := by decide +kernel
theorem dX9_nextOf_6 : decode cX9_nextOf 6 = .ok (.iload_n 2, 1) := by decide +kernel
theorem dX9_nextOf_7 : decode cX9_nextOf 7 = .ok (.iload_n 1, 1) := by decide +kernel
theorem dX9_nextOf_8 : decode cX9_nextOf 8 = .ok (.if_icmp .ge 13, 3) := by decide +kernel
theorem dX9_nextOf_11 : decode cX9_nextOf 11 = .ok (.aload_n 0, 1) := by decide +kernel
theorem dX9_nextOf_12 : decode cX9_nextOf 12 = .ok (.invokevirtual 162, 3) := by decide +kernel
theorem dX9_nextOf_15 : decode cX9_nextOf 15 = .ok (.iinc 2 1, 3) := by decide +kernel
theorem dX9_nextOf_18 : decode cX9_nextOf 18 = .ok (.goto (-12), 3) := by decide +kernel
theorem dX9_nextOf_21 : decode cX9_nextOf 21 = .ok (.aload_n 0, 1) := by decide +kernel
theorem dX9_nextOf_22 : decode cX9_nextOf 22 = .ok (.invokevirtual 127, 3) := by decide +kernel
theorem dX9_nextOf_25 : decode cX9_nextOf 25 = .ok (.ireturn, 1) := by decide +kernel
set_option maxRecDepth 20000 in
theorem ggX9_next_X9_in : GoodIn wsX9_next wsX9_in := goodIn_r _ [5] (by decide +kernel) (by decide +kernel)
set_option maxRecDepth 20000 in
theorem gX9_next_X9_in : GoodIn wsX9_next (va_wsS RX9 67 yX9_in wsX9_in) := goodIn_app (goodIn_of _ (by decide +kernel)) ggX9_next_X9_in
set_option maxRecDepth 20000 in
theorem ggX9_next_X9_lacks : GoodIn wsX9_next wsX9_lacks := goodIn_r _ [9, 10, 46, 47, 48, 49, 50, 51, 52, 53, 54, 55, 56, 57, 58, 59, 60, 61, 62, 63, 64, 65, 66, 67, 68, 69, 70, 71, 72, 73, 74, 75, 76, 77, 78, 79] (by decide +kernel) (by decide +kernel)
set_option maxRecDepth 20000 in
theorem gX9_next_X9_lacks : GoodIn wsX9_next (wsV RX9 158 RX9 yX9_lacks wsX9_lacks) := goodIn_app (goodIn_of _ (by decide +kernel)) ggX9_next_X9_lacks
set_option maxRecDepth 20000 in
theorem ggX9_next_X9_nextOf : GoodIn wsX9_next wsX9_nextOf := goodIn_r _ [14, 15, 16, 17, 4, 18, 19, 20, 21, 22, 23, 24, 25, 26, 27, 28, 29, 30, 31, 32, 33, 10, 34, 35, 36, 37, 38, 39, 40, 41, 42, 43, 44, 45, 46, 47, 48, 49, 50, 51, 52, 53, 54, 55, 56, 57, 58, 59, 60, 61, 62, 63, 64, 65, 66, 67, 68, 69, 70, 71, 72, 73, 74, 75, 76, 77, 78, 79] (by decide +kernel) (by decide +kernel)
set_option maxRecDepth 20000 in
theorem gX9_next_X9_nextOf : GoodIn wsX9_next (wsV RX9 174 RX9 yX9_nextOf wsX9_nextOf) := goodIn_app (goodIn_of _ (by decide +kernel)) ggX9_next_X9_nextOf
theorem dX9_next_0 : decode cX9_next 0 = .ok (.iload_n 1, 1) := by decide +kernel
theorem dX9_next_1 : decode cX9_next 1 = .ok (.i2l, 1) := by decide +kernel
theorem dX9_next_2 : decode cX9_next 2 = .ok (.lconst 0, 1) := by decide +kernel
theorem dX9_next_3 : decode cX9_next 3 = .ok (.ldc2_w 172, 3) := by decide +kernel
theorem dX9_next_6 : decode cX9_next 6 = .ok (.invokestatic 67, 3) := by decide +kernel
theorem dX9_next_9 : decode cX9_next 9 = .ok (.ifCond .ne 6, 3) := by decide +kernel
theorem dX9_next_12 : decode cX9_next 12 = .ok (.bipush (-102), 2) := by decide +kernel
theorem dX9_next_14 : decode cX9_next 14 = .ok (.ireturn, 1) := by decide +kernel
theorem dX9_next_15 : decode cX9_next 15 = .ok (.aload_n 0, 1) := by decide +kernel
theorem dX9_next_16 : decode cX9_next 16 = .ok (.invokevirtual 158, 3) := by decide +kernel
theorem dX9_next_19 : decode cX9_next 19 = .ok (.ifCond .eq 8, 3) := by decide +kernel
theorem dX9_next_22 : decode cX9_next 22 = .ok (.bipush (-103), 2) := by decide +kernel
theorem dX9_next_24 : decode cX9_next 24 = .ok (.goto 8, 3) := by decide +kernel
theorem dX9_next_27 : decode cX9_next 27 = .ok (.aload_n 0, 1) := by decide +kernel
theorem dX9_next_28 : decode cX9_next 28 = .ok (.iload_n 1, 1) := by decide +kernel
theorem dX9_next_29 : decode cX9_next 29 = .ok (.invokevirtual 174, 3) := by decide +kernel
theorem dX9_next_32 : decode cX9_next 32 = .ok (.ireturn, 1) := by decide +kernel
theorem dX9_figure_0 : decode cX9_figure 0 = .ok (.iload_n 0, 1) := by decide +kernel
theorem dX9_figure_1 : decode cX9_figure 1 = .ok (.iconst 3, 1) := by decide +kernel
theorem dX9_figure_2 : decode cX9_figure 2 = .ok (.iload_n 1, 1) := by decide +kernel
theorem dX9_figure_3 : decode cX9_figure 3 = .ok (.iconst 1, 1) := by decide +kernel
theorem dX9_figure_4 : decode cX9_figure 4 = .ok (.isub, 1) := by decide +kernel
theorem dX9_figure_5 : decode cX9_figure 5 = .ok (.iload_n 2, 1) := by decide +kernel
theorem dX9_figure_6 : decode cX9_figure 6 = .ok (.isub, 1) := by decide +kernel
theorem dX9_figure_7 : decode cX9_figure 7 = .ok (.imul, 1) := by decide +kernel
theorem dX9_figure_8 : decode cX9_figure 8 = .ok (.ishr, 1) := by decide +kernel
theorem dX9_figure_9 : decode cX9_figure 9 = .ok (.bipush 7, 2) := by decide +kernel
theorem dX9_figure_11 : decode cX9_figure 11 = .ok (.iand, 1) := by decide +kernel
theorem dX9_figure_12 : decode cX9_figure 12 = .ok (.ireturn, 1) := by decide +kernel
set_option maxRecDepth 20000 in
theorem ggX9_siegeBy_X9_begin : GoodIn wsX9_siegeBy wsX9_begin := goodIn_r _ [8, 9, 10, 11, 12, 13, 3, 14, 15, 16, 17, 7, 18, 51, 52, 53, 54, 55, 56, 57, 58, 59, 60, 61, 62, 63, 64, 65, 66, 67, 68, 69, 70, 71, 72, 73, 74, 75, 76, 77, 78, 79, 80, 81, 82, 83, 84] (by decide +kernel) (by decide +kernel)
set_option maxRecDepth 20000 in
theorem gX9_siegeBy_X9_begin : GoodIn wsX9_siegeBy (wsV RX9 130 RX9 yX9_begin wsX9_begin) := goodIn_app (goodIn_of _ (by decide +kernel)) ggX9_siegeBy_X9_begin
set_option maxRecDepth 20000 in
theorem ggX9_siegeBy_X9_figure : GoodIn wsX9_siegeBy wsX9_figure := goodIn_r _ [21] (by decide +kernel) (by decide +kernel)
set_option maxRecDepth 20000 in
theorem gX9_siegeBy_X9_figure : GoodIn wsX9_siegeBy (va_wsS RX9 178 yX9_figure wsX9_figure) := goodIn_app (goodIn_of _ (by decide +kernel)) ggX9_siegeBy_X9_figure
set_option maxRecDepth 20000 in
theorem ggX9_siegeBy_X9_touchThen : GoodIn wsX9_siegeBy wsX9_touchThen := goodIn_r _ [25, 10, 12, 51, 52, 53, 54, 55, 56, 57, 58, 59, 60, 61, 62, 63, 64, 65, 66, 67, 68, 69, 70, 71, 72, 73, 74, 75, 76, 77, 78, 79, 80, 81, 82, 83, 84] (by decide +kernel) (by decide +kernel)
set_option maxRecDepth 20000 in
theorem gX9_siegeBy_X9_touchThen : GoodIn wsX9_siegeBy (wsV RX9 151 RX9 yX9_touchThen wsX9_touchThen) := goodIn_app (goodIn_of _ (by decide +kernel)) ggX9_siegeBy_X9_touchThen
set_option maxRecDepth 20000 in
theorem ggX9_siegeBy_X9_dayThen : GoodIn wsX9_siegeBy wsX9_dayThen := goodIn_r _ [29, 2, 12, 3, 51, 52, 53, 54, 55, 56, 57, 58, 59, 60, 61, 62, 63, 64, 65, 66, 67, 68, 69, 70, 71, 72, 73, 74, 75, 76, 77, 78, 79, 80, 81, 82, 83, 84] (by decide +kernel) (by decide +kernel)
set_option maxRecDepth 20000 in
theorem gX9_siegeBy_X9_dayThen : GoodIn wsX9_siegeBy (wsV RX9 162 RX9 yX9_dayThen wsX9_dayThen) := goodIn_app (goodIn_of _ (by decide +kernel)) ggX9_siegeBy_X9_dayThen
set_option maxRecDepth 20000 in
theorem ggX9_siegeBy_X9_takeThen : GoodIn wsX9_siegeBy wsX9_takeThen := goodIn_r _ [33, 3, 15, 34, 35, 36, 37, 7, 38, 2, 39, 40, 41, 42, 43, 10, 12, 44, 45, 46, 51, 52, 53, 54, 55, 56, 57, 58, 59, 60, 61, 62, 63, 64, 65, 66, 67, 68, 69, 70, 71, 72, 73, 74, 75, 76, 77, 78, 79, 80, 81, 82, 83, 84] (by decide +kernel) (by decide +kernel)
set_option maxRecDepth 20000 in
theorem gX9_siegeBy_X9_takeThen : GoodIn wsX9_siegeBy (wsV RX9 165 RX9 yX9_takeThen wsX9_takeThen) := goodIn_app (goodIn_of _ (by decide +kernel)) ggX9_siegeBy_X9_takeThen
set_option maxRecDepth 20000 in
theorem ggX9_siegeBy_X9_missedLeft : GoodIn wsX9_siegeBy wsX9_missedLeft := goodIn_r _ [50, 2, 3, 39, 40, 41, 7, 42, 43, 10, 12, 44, 45, 46, 51, 52, 53, 54, 55, 56, 57, 58, 59, 60, 61, 62, 63, 64, 65, 66, 67, 68, 69, 70, 71, 72, 73, 74, 75, 76, 77, 78, 79, 80, 81, 82, 83, 84] (by decide +kernel) (by decide +kernel)
set_option maxRecDepth 20000 in
theorem gX9_siegeBy_X9_missedLeft : GoodIn wsX9_siegeBy (wsV RX9 181 RX9 yX9_missedLeft wsX9_missedLeft) := goodIn_app (goodIn_of _ (by decide +kernel)) ggX9_siegeBy_X9_missedLeft
theorem dX9_siegeBy_0 : decode cX9_siegeBy 0 = .ok (.aload_n 0, 1) := by decide +kernel
theorem dX9_siegeBy_1 : decode cX9_siegeBy 1 = .ok (.invokevirtual 130, 3) := by decide +kernel
theorem dX9_siegeBy_4 : decode cX9_siegeBy 4 = .ok (.ldc 177, 2) := by decide +kernel
theorem dX9_siegeBy_6 : decode cX9_siegeBy 6 = .ok (.istore_n 3, 1) := by decide +kernel
theorem dX9_siegeBy_7 : decode cX9_siegeBy 7 = .ok (.iconst 0, 1) := by decide +kernel
theorem dX9_siegeBy_8 : decode cX9_siegeBy 8 = .ok (.istore 4, 2) := by decide +kernel
theorem dX9_siegeBy_10 : decode cX9_siegeBy 10 = .ok (.iload 4, 2) := by decide +kernel
theorem dX9_siegeBy_12 : decode cX9_siegeBy 12 = .ok (.iload_n 2, 1) := by decide +kernel
theorem dX9_siegeBy_13 : decode cX9_siegeBy 13 = .ok (.if_icmp .ge 75, 3) := by decide +kernel
theorem dX9_siegeBy_16 : decode cX9_siegeBy 16 = .ok (.iload_n 1, 1) := by decide +kernel
theorem dX9_siegeBy_17 : decode cX9_siegeBy 17 = .ok (.iload_n 2, 1) := by decide +kernel
theorem dX9_siegeBy_18 : decode cX9_siegeBy 18 = .ok (.iload 4, 2) := by decide +kernel
theorem dX9_siegeBy_20 : decode cX9_siegeBy 20 = .ok (.invokestatic 178, 3) := by decide +kernel
theorem dX9_siegeBy_23 : decode cX9_siegeBy 23 = .ok (.istore 5, 2) := by decide +kernel
theorem dX9_siegeBy_25 : decode cX9_siegeBy 25 = .ok (.iload 5, 2) := by decide +kernel
theorem dX9_siegeBy_27 : decode cX9_siegeBy 27 = .ok (.bipush 7, 2) := by decide +kernel
theorem dX9_siegeBy_29 : decode cX9_siegeBy 29 = .ok (.if_icmp .ge 25, 3) := by decide +kernel
theorem dX9_siegeBy_32 : decode cX9_siegeBy 32 = .ok (.iload 5, 2) := by decide +kernel
theorem dX9_siegeBy_34 : decode cX9_siegeBy 34 = .ok (.aload_n 0, 1) := by decide +kernel
theorem dX9_siegeBy_35 : decode cX9_siegeBy 35 = .ok (.getfield 95, 3) := by decide +kernel
theorem dX9_siegeBy_38 : decode cX9_siegeBy 38 = .ok (.if_icmp .ge 14, 3) := by decide +kernel
theorem dX9_siegeBy_41 : decode cX9_siegeBy 41 = .ok (.aload_n 0, 1) := by decide +kernel
theorem dX9_siegeBy_42 : decode cX9_siegeBy 42 = .ok (.getfield 34, 3) := by decide +kernel
theorem dX9_siegeBy_45 : decode cX9_siegeBy 45 = .ok (.iload 5, 2) := by decide +kernel
theorem dX9_siegeBy_47 : decode cX9_siegeBy 47 = .ok (.iaload, 1) := by decide +kernel
theorem dX9_siegeBy_48 : decode cX9_siegeBy 48 = .ok (.iconst 1, 1) := by decide +kernel
theorem dX9_siegeBy_49 : decode cX9_siegeBy 49 = .ok (.if_icmp .ne 5, 3) := by decide +kernel
theorem dX9_siegeBy_52 : decode cX9_siegeBy 52 = .ok (.iconst (-1), 1) := by decide +kernel
theorem dX9_siegeBy_53 : decode cX9_siegeBy 53 = .ok (.ireturn, 1) := by decide +kernel
theorem dX9_siegeBy_54 : decode cX9_siegeBy 54 = .ok (.iload 5, 2) := by decide +kernel
theorem dX9_siegeBy_56 : decode cX9_siegeBy 56 = .ok (.bipush 7, 2) := by decide +kernel
theorem dX9_siegeBy_58 : decode cX9_siegeBy 58 = .ok (.if_icmp .ge 9, 3) := by decide +kernel
theorem dX9_siegeBy_61 : decode cX9_siegeBy 61 = .ok (.aload_n 0, 1) := by decide +kernel
theorem dX9_siegeBy_62 : decode cX9_siegeBy 62 = .ok (.iload 5, 2) := by decide +kernel
theorem dX9_siegeBy_64 : decode cX9_siegeBy 64 = .ok (.invokevirtual 151, 3) := by decide +kernel
theorem dX9_siegeBy_67 : decode cX9_siegeBy 67 = .ok (.aload_n 0, 1) := by decide +kernel
theorem dX9_siegeBy_68 : decode cX9_siegeBy 68 = .ok (.invokevirtual 162, 3) := by decide +kernel
theorem dX9_siegeBy_71 : decode cX9_siegeBy 71 = .ok (.iload_n 3, 1) := by decide +kernel
theorem dX9_siegeBy_72 : decode cX9_siegeBy 72 = .ok (.sipush 1000, 3) := by decide +kernel
theorem dX9_siegeBy_75 : decode cX9_siegeBy 75 = .ok (.aload_n 0, 1) := by decide +kernel
theorem dX9_siegeBy_76 : decode cX9_siegeBy 76 = .ok (.invokevirtual 165, 3) := by decide +kernel
theorem dX9_siegeBy_79 : decode cX9_siegeBy 79 = .ok (.imul, 1) := by decide +kernel
theorem dX9_siegeBy_80 : decode cX9_siegeBy 80 = .ok (.isub, 1) := by decide +kernel
theorem dX9_siegeBy_81 : decode cX9_siegeBy 81 = .ok (.istore_n 3, 1) := by decide +kernel
theorem dX9_siegeBy_82 : decode cX9_siegeBy 82 = .ok (.iinc 4 1, 3) := by decide +kernel
theorem dX9_siegeBy_85 : decode cX9_siegeBy 85 = .ok (.goto (-75), 3) := by decide +kernel
theorem dX9_siegeBy_88 : decode cX9_siegeBy 88 = .ok (.iload_n 3, 1) := by decide +kernel
theorem dX9_siegeBy_89 : decode cX9_siegeBy 89 = .ok (.aload_n 0, 1) := by decide +kernel
theorem dX9_siegeBy_90 : decode cX9_siegeBy 90 = .ok (.invokevirtual 181, 3) := by decide +kernel
theorem dX9_siegeBy_93 : decode cX9_siegeBy 93 = .ok (.iadd, 1) := by decide +kernel
theorem dX9_siegeBy_94 : decode cX9_siegeBy 94 = .ok (.ireturn, 1) := by decide +kernel
set_option maxRecDepth 20000 in
theorem ggX9_siegeOf_X9_siegeBy : GoodIn wsX9_siegeOf wsX9_siegeBy := goodIn_r _ [6, 7, 8, 9, 10, 11, 12, 5, 13, 14, 15, 16, 17, 18, 19, 20, 21, 22, 23, 24, 25, 26, 27, 28, 29, 30, 31, 32, 33, 34, 35, 36, 37, 38, 39, 40, 41, 42, 43, 44, 45, 46, 47, 48, 49, 50, 51, 52, 53, 54, 55, 56, 57, 58, 59, 60, 61, 62, 63, 64, 65, 66, 67, 68, 69, 70, 71, 72, 73, 74, 75, 76, 77, 78, 79, 80, 81, 82, 83, 84, 85, 86, 87, 88, 89] (by decide +kernel) (by decide +kernel)
set_option maxRecDepth 20000 in
theorem gX9_siegeOf_X9_siegeBy : GoodIn wsX9_siegeOf (wsV RX9 184 RX9 yX9_siegeBy wsX9_siegeBy) := goodIn_app (goodIn_of _ (by decide +kernel)) ggX9_siegeOf_X9_siegeBy
set_option maxRecDepth 20000 in
theorem ggX9_siegeOf_X9_figure : GoodIn wsX9_siegeOf wsX9_figure := goodIn_r _ [26] (by decide +kernel) (by decide +kernel)
set_option maxRecDepth 20000 in
theorem gX9_siegeOf_X9_figure : GoodIn wsX9_siegeOf (va_wsS RX9 178 yX9_figure wsX9_figure) := goodIn_app (goodIn_of _ (by decide +kernel)) ggX9_siegeOf_X9_figure
theorem dX9_siegeOf_0 : decode cX9_siegeOf 0 = .ok (.iconst 0, 1) := by decide +kernel
theorem dX9_siegeOf_1 : decode cX9_siegeOf 1 = .ok (.istore_n 3, 1) := by decide +kernel
theorem dX9_siegeOf_2 : decode cX9_siegeOf 2 = .ok (.iconst (-1), 1) := by decide +kernel
theorem dX9_siegeOf_3 : decode cX9_siegeOf 3 = .ok (.istore 4, 2) := by decide +kernel
theorem dX9_siegeOf_5 : decode cX9_siegeOf 5 = .ok (.iconst 0, 1) := by decide +kernel
theorem dX9_siegeOf_6 : decode cX9_siegeOf 6 = .ok (.istore 5, 2) := by decide +kernel
theorem dX9_siegeOf_8 : decode cX9_siegeOf 8 = .ok (.iload 5, 2) := by decide +kernel
theorem dX9_siegeOf_10 : decode cX9_siegeOf 10 = .ok (.iconst 1, 1) := by decide +kernel
theorem dX9_siegeOf_11 : decode cX9_siegeOf 11 = .ok (.iconst 3, 1) := by decide +kernel
theorem dX9_siegeOf_12 : decode cX9_siegeOf 12 = .ok (.iload_n 1, 1) := by decide +kernel
theorem dX9_siegeOf_13 : decode cX9_siegeOf 13 = .ok (.imul, 1) := by decide +kernel
theorem dX9_siegeOf_14 : decode cX9_siegeOf 14 = .ok (.ishl, 1) := by decide +kernel
theorem dX9_siegeOf_15 : decode cX9_siegeOf 15 = .ok (.if_icmp .ge 48, 3) := by decide +kernel
theorem dX9_siegeOf_18 : decode cX9_siegeOf 18 = .ok (.aload_n 0, 1) := by decide +kernel
theorem dX9_siegeOf_19 : decode cX9_siegeOf 19 = .ok (.iload 5, 2) := by decide +kernel
theorem dX9_siegeOf_21 : decode cX9_siegeOf 21 = .ok (.iload_n 1, 1) := by decide +kernel
theorem dX9_siegeOf_22 : decode cX9_siegeOf 22 = .ok (.invokevirtual 184, 3) := by decide +kernel
theorem dX9_siegeOf_25 : decode cX9_siegeOf 25 = .ok (.istore 6, 2) := by decide +kernel
theorem dX9_siegeOf_27 : decode cX9_siegeOf 27 = .ok (.iload 6, 2) := by decide +kernel
theorem dX9_siegeOf_29 : decode cX9_siegeOf 29 = .ok (.iload 4, 2) := by decide +kernel
theorem dX9_siegeOf_31 : decode cX9_siegeOf 31 = .ok (.if_icmp .le 8, 3) := by decide +kernel
theorem dX9_siegeOf_34 : decode cX9_siegeOf 34 = .ok (.iload 5, 2) := by decide +kernel
theorem dX9_siegeOf_36 : decode cX9_siegeOf 36 = .ok (.goto 4, 3) := by decide +kernel
theorem dX9_siegeOf_39 : decode cX9_siegeOf 39 = .ok (.iload_n 3, 1) := by decide +kernel
theorem dX9_siegeOf_40 : decode cX9_siegeOf 40 = .ok (.istore_n 3, 1) := by decide +kernel
theorem dX9_siegeOf_41 : decode cX9_siegeOf 41 = .ok (.iload 6, 2) := by decide +kernel
theorem dX9_siegeOf_43 : decode cX9_siegeOf 43 = .ok (.iload 4, 2) := by decide +kernel
theorem dX9_siegeOf_45 : decode cX9_siegeOf 45 = .ok (.if_icmp .le 8, 3) := by decide +kernel
theorem dX9_siegeOf_48 : decode cX9_siegeOf 48 = .ok (.iload 6, 2) := by decide +kernel
theorem dX9_siegeOf_50 : decode cX9_siegeOf 50 = .ok (.goto 5, 3) := by decide +kernel
theorem dX9_siegeOf_53 : decode cX9_siegeOf 53 = .ok (.iload 4, 2) := by decide +kernel
theorem dX9_siegeOf_55 : decode cX9_siegeOf 55 = .ok (.istore 4, 2) := by decide +kernel
theorem dX9_siegeOf_57 : decode cX9_siegeOf 57 = .ok (.iinc 5 1, 3) := by decide +kernel
theorem dX9_siegeOf_60 : decode cX9_siegeOf 60 = .ok (.goto (-52), 3) := by decide +kernel
theorem dX9_siegeOf_63 : decode cX9_siegeOf 63 = .ok (.iload_n 2, 1) := by decide +kernel
theorem dX9_siegeOf_64 : decode cX9_siegeOf 64 = .ok (.iconst 2, 1) := by decide +kernel
theorem dX9_siegeOf_65 : decode cX9_siegeOf 65 = .ok (.if_icmp .ge 26, 3) := by decide +kernel
theorem dX9_siegeOf_68 : decode cX9_siegeOf 68 = .ok (.iload_n 2, 1) := by decide +kernel
theorem dX9_siegeOf_69 : decode cX9_siegeOf 69 = .ok (.ifCond .ne 15, 3) := by decide +kernel
theorem dX9_siegeOf_72 : decode cX9_siegeOf 72 = .ok (.ldc 187, 2) := by decide +kernel
theorem dX9_siegeOf_74 : decode cX9_siegeOf 74 = .ok (.iload 4, 2) := by decide +kernel
theorem dX9_siegeOf_76 : decode cX9_siegeOf 76 = .ok (.isub, 1) := by decide +kernel
theorem dX9_siegeOf_77 : decode cX9_siegeOf 77 = .ok (.sipush 1000, 3) := by decide +kernel
theorem dX9_siegeOf_80 : decode cX9_siegeOf 80 = .ok (.idiv, 1) := by decide +kernel
theorem dX9_siegeOf_81 : decode cX9_siegeOf 81 = .ok (.goto 9, 3) := by decide +kernel
theorem dX9_siegeOf_84 : decode cX9_siegeOf 84 = .ok (.iload 4, 2) := by decide +kernel
theorem dX9_siegeOf_86 : decode cX9_siegeOf 86 = .ok (.sipush 1000, 3) := by decide +kernel
theorem dX9_siegeOf_89 : decode cX9_siegeOf 89 = .ok (.irem, 1) := by decide +kernel
theorem dX9_siegeOf_90 : decode cX9_siegeOf 90 = .ok (.ireturn, 1) := by decide +kernel
theorem dX9_siegeOf_91 : decode cX9_siegeOf 91 = .ok (.iload_n 2, 1) := by decide +kernel
theorem dX9_siegeOf_92 : decode cX9_siegeOf 92 = .ok (.bipush 10, 2) := by decide +kernel
theorem dX9_siegeOf_94 : decode cX9_siegeOf 94 = .ok (.isub, 1) := by decide +kernel
theorem dX9_siegeOf_95 : decode cX9_siegeOf 95 = .ok (.iload_n 1, 1) := by decide +kernel
theorem dX9_siegeOf_96 : decode cX9_siegeOf 96 = .ok (.if_icmp .ge 15, 3) := by decide +kernel
theorem dX9_siegeOf_99 : decode cX9_siegeOf 99 = .ok (.iload_n 3, 1) := by decide +kernel
theorem dX9_siegeOf_100 : decode cX9_siegeOf 100 = .ok (.iload_n 1, 1) := by decide +kernel
theorem dX9_siegeOf_101 : decode cX9_siegeOf 101 = .ok (.iload_n 2, 1) := by decide +kernel
theorem dX9_siegeOf_102 : decode cX9_siegeOf 102 = .ok (.bipush 10, 2) := by decide +kernel
theorem dX9_siegeOf_104 : decode cX9_siegeOf 104 = .ok (.isub, 1) := by decide +kernel
theorem dX9_siegeOf_105 : decode cX9_siegeOf 105 = .ok (.invokestatic 178, 3) := by decide +kernel
theorem dX9_siegeOf_108 : decode cX9_siegeOf 108 = .ok (.goto 4, 3) := by decide +kernel
theorem dX9_siegeOf_111 : decode cX9_siegeOf 111 = .ok (.iconst (-1), 1) := by decide +kernel
theorem dX9_siegeOf_112 : decode cX9_siegeOf 112 = .ok (.ireturn, 1) := by decide +kernel
set_option maxRecDepth 20000 in
theorem ggX9_siege_X9_in : GoodIn wsX9_siege wsX9_in := goodIn_r _ [7] (by decide +kernel) (by decide +kernel)
set_option maxRecDepth 20000 in
theorem gX9_siege_X9_in : GoodIn wsX9_siege (va_wsS RX9 67 yX9_in wsX9_in) := goodIn_app (goodIn_of _ (by decide +kernel)) ggX9_siege_X9_in
set_option maxRecDepth 20000 in
theorem ggX9_siege_X9_lacks : GoodIn wsX9_siege wsX9_lacks := goodIn_r _ [11, 12, 70, 71, 72, 73, 74, 75, 76, 77, 78, 79, 80, 81, 82, 83, 84, 85, 86, 87, 88, 89, 90, 91, 92, 93, 94, 95, 96, 97, 98, 99, 100, 101, 102, 103] (by decide +kernel) (by decide +kernel)
set_option maxRecDepth 20000 in
theorem gX9_siege_X9_lacks : GoodIn wsX9_siege (wsV RX9 158 RX9 yX9_lacks wsX9_lacks) := goodIn_app (goodIn_of _ (by decide +kernel)) ggX9_siege_X9_lacks
set_option maxRecDepth 20000 in
theorem ggX9_siege_X9_siegeOf : GoodIn wsX9_siege wsX9_siegeOf := goodIn_r _ [16, 17, 18, 19, 20, 6, 21, 22, 12, 23, 24, 25, 26, 27, 28, 29, 30, 31, 32, 33, 34, 35, 36, 37, 38, 39, 40, 41, 42, 43, 44, 45, 46, 47, 48, 49, 50, 51, 52, 53, 54, 55, 56, 57, 58, 59, 60, 61, 62, 63, 64, 65, 66, 67, 68, 69, 70, 71, 72, 73, 74, 75, 76, 77, 78, 79, 80, 81, 82, 83, 84, 85, 86, 87, 88, 89, 90, 91, 92, 93, 94, 95, 96, 97, 98, 99, 100, 101, 102, 103] (by decide +kernel) (by decide +kernel)
set_option maxRecDepth 20000 in
theorem gX9_siege_X9_siegeOf : GoodIn wsX9_siege (wsV RX9 192 RX9 yX9_siegeOf wsX9_siegeOf) := goodIn_app (goodIn_of _ (by decide +kernel)) ggX9_siege_X9_siegeOf
theorem dX9_siege_0 : decode cX9_siege 0 = .ok (.iload_n 1, 1) := by decide +kernel
theorem dX9_siege_1 : decode cX9_siege 1 = .ok (.i2l, 1) := by decide +kernel
theorem dX9_siege_2 : decode cX9_siege 2 = .ok (.lconst 1, 1) := by decide +kernel
theorem dX9_siege_3 : decode cX9_siege 3 = .ok (.ldc2_w 149, 3) := by decide +kernel
theorem dX9_siege_6 : decode cX9_siege 6 = .ok (.invokestatic 67, 3) := by decide +kernel
theorem dX9_siege_9 : decode cX9_siege 9 = .ok (.ifCond .eq 27, 3) := by decide +kernel
theorem dX9_siege_12 : decode cX9_siege 12 = .ok (.iload_n 2, 1) := by decide +kernel
theorem dX9_siege_13 : decode cX9_siege 13 = .ok (.i2l, 1) := by decide +kernel
theorem dX9_siege_14 : decode cX9_siege 14 = .ok (.lconst 0, 1) := by decide +kernel
theorem dX9_siege_15 : decode cX9_siege 15 = .ok (.lconst 1, 1) := by decide +kernel
theorem dX9_siege_16 : decode cX9_siege 16 = .ok (.invokestatic 67, 3) := by decide +kernel
theorem dX9_siege_19 : decode cX9_siege 19 = .ok (.ifCond .ne 20, 3) := by decide +kernel
theorem dX9_siege_22 : decode cX9_siege 22 = .ok (.iload_n 2, 1) := by decide +kernel
theorem dX9_siege_23 : decode cX9_siege 23 = .ok (.i2l, 1) := by decide +kernel
theorem dX9_siege_24 : decode cX9_siege 24 = .ok (.ldc2_w 188, 3) := by decide +kernel
theorem dX9_siege_27 : decode cX9_siege 27 = .ok (.ldc2_w 190, 3) := by decide +kernel
theorem dX9_siege_30 : decode cX9_siege 30 = .ok (.invokestatic 67, 3) := by decide +kernel
theorem dX9_siege_33 : decode cX9_siege 33 = .ok (.ifCond .ne 6, 3) := by decide +kernel
theorem dX9_siege_36 : decode cX9_siege 36 = .ok (.bipush (-102), 2) := by decide +kernel
theorem dX9_siege_38 : decode cX9_siege 38 = .ok (.ireturn, 1) := by decide +kernel
theorem dX9_siege_39 : decode cX9_siege 39 = .ok (.aload_n 0, 1) := by decide +kernel
theorem dX9_siege_40 : decode cX9_siege 40 = .ok (.invokevirtual 158, 3) := by decide +kernel
theorem dX9_siege_43 : decode cX9_siege 43 = .ok (.ifCond .eq 8, 3) := by decide +kernel
theorem dX9_siege_46 : decode cX9_siege 46 = .ok (.bipush (-103), 2) := by decide +kernel
theorem dX9_siege_48 : decode cX9_siege 48 = .ok (.goto 9, 3) := by decide +kernel
theorem dX9_siege_51 : decode cX9_siege 51 = .ok (.aload_n 0, 1) := by decide +kernel
theorem dX9_siege_52 : decode cX9_siege 52 = .ok (.iload_n 1, 1) := by decide +kernel
theorem dX9_siege_53 : decode cX9_siege 53 = .ok (.iload_n 2, 1) := by decide +kernel
theorem dX9_siege_54 : decode cX9_siege 54 = .ok (.invokevirtual 192, 3) := by decide +kernel
theorem dX9_siege_57 : decode cX9_siege 57 = .ok (.ireturn, 1) := by decide +kernel
theorem dX9_worthOf_0 : decode cX9_worthOf 0 = .ok (.iconst 0, 1) := by decide +kernel
theorem dX9_worthOf_1 : decode cX9_worthOf 1 = .ok (.istore_n 2, 1) := by decide +kernel
theorem dX9_worthOf_2 : decode cX9_worthOf 2 = .ok (.iconst 0, 1) := by decide +kernel
theorem dX9_worthOf_3 : decode cX9_worthOf 3 = .ok (.istore_n 3, 1) := by decide +kernel
theorem dX9_worthOf_4 : decode cX9_worthOf 4 = .ok (.iload_n 3, 1) := by decide +kernel
theorem dX9_worthOf_5 : decode cX9_worthOf 5 = .ok (.aload_n 0, 1) := by decide +kernel
theorem dX9_worthOf_6 : decode cX9_worthOf 6 = .ok (.getfield 95, 3) := by decide +kernel
theorem dX9_worthOf_9 : decode cX9_worthOf 9 = .ok (.if_icmp .ge 31, 3) := by decide +kernel
theorem dX9_worthOf_12 : decode cX9_worthOf 12 = .ok (.iload_n 2, 1) := by decide +kernel
theorem dX9_worthOf_13 : decode cX9_worthOf 13 = .ok (.iload_n 1, 1) := by decide +kernel
theorem dX9_worthOf_14 : decode cX9_worthOf 14 = .ok (.iload_n 3, 1) := by decide +kernel
theorem dX9_worthOf_15 : decode cX9_worthOf 15 = .ok (.ishr, 1) := by decide +kernel
theorem dX9_worthOf_16 : decode cX9_worthOf 16 = .ok (.iconst 1, 1) := by decide +kernel
theorem dX9_worthOf_17 : decode cX9_worthOf 17 = .ok (.iand, 1) := by decide +kernel
theorem dX9_worthOf_18 : decode cX9_worthOf 18 = .ok (.iconst 1, 1) := by decide +kernel
theorem dX9_worthOf_19 : decode cX9_worthOf 19 = .ok (.if_icmp .ne 12, 3) := by decide +kernel
theorem dX9_worthOf_22 : decode cX9_worthOf 22 = .ok (.aload_n 0, 1) := by decide +kernel
theorem dX9_worthOf_23 : decode cX9_worthOf 23 = .ok (.getfield 16, 3) := by decide +kernel
theorem dX9_worthOf_26 : decode cX9_worthOf 26 = .ok (.iload_n 3, 1) := by decide +kernel
theorem dX9_worthOf_27 : decode cX9_worthOf 27 = .ok (.iaload, 1) := by decide +kernel
theorem dX9_worthOf_28 : decode cX9_worthOf 28 = .ok (.goto 4, 3) := by decide +kernel
theorem dX9_worthOf_31 : decode cX9_worthOf 31 = .ok (.iconst 0, 1) := by decide +kernel
theorem dX9_worthOf_32 : decode cX9_worthOf 32 = .ok (.iadd, 1) := by decide +kernel
theorem dX9_worthOf_33 : decode cX9_worthOf 33 = .ok (.istore_n 2, 1) := by decide +kernel
theorem dX9_worthOf_34 : decode cX9_worthOf 34 = .ok (.iinc 3 1, 3) := by decide +kernel
theorem dX9_worthOf_37 : decode cX9_worthOf 37 = .ok (.goto (-33), 3) := by decide +kernel
theorem dX9_worthOf_40 : decode cX9_worthOf 40 = .ok (.iload_n 2, 1) := by decide +kernel
theorem dX9_worthOf_41 : decode cX9_worthOf 41 = .ok (.ireturn, 1) := by decide +kernel
set_option maxRecDepth 20000 in
theorem ggX9_missedOf_X9_missedThen : GoodIn wsX9_missedOf wsX9_missedThen := goodIn_r _ [6, 7, 8, 9, 10, 11, 5, 12, 13, 14, 15, 16, 17, 18, 19, 20, 21, 22, 23, 24, 25, 26, 27, 28, 29, 30, 31, 32, 33, 34, 35, 36, 37, 38, 39, 40, 41, 42, 43, 44, 45, 46] (by decide +kernel) (by decide +kernel)
set_option maxRecDepth 20000 in
theorem gX9_missedOf_X9_missedThen : GoodIn wsX9_missedOf (wsV RX9 124 RX9 yX9_missedThen wsX9_missedThen) := goodIn_app (goodIn_of _ (by decide +kernel)) ggX9_missedOf_X9_missedThen
theorem dX9_missedOf_0 : decode cX9_missedOf 0 = .ok (.iconst 0, 1) := by decide +kernel
theorem dX9_missedOf_1 : decode cX9_missedOf 1 = .ok (.istore_n 2, 1) := by decide +kernel
theorem dX9_missedOf_2 : decode cX9_missedOf 2 = .ok (.iconst 0, 1) := by decide +kernel
theorem dX9_missedOf_3 : decode cX9_missedOf 3 = .ok (.istore_n 3, 1) := by decide +kernel
theorem dX9_missedOf_4 : decode cX9_missedOf 4 = .ok (.iload_n 3, 1) := by decide +kernel
theorem dX9_missedOf_5 : decode cX9_missedOf 5 = .ok (.aload_n 0, 1) := by decide +kernel
theorem dX9_missedOf_6 : decode cX9_missedOf 6 = .ok (.getfield 95, 3) := by decide +kernel
theorem dX9_missedOf_9 : decode cX9_missedOf 9 = .ok (.if_icmp .ge 30, 3) := by decide +kernel
theorem dX9_missedOf_12 : decode cX9_missedOf 12 = .ok (.iload_n 2, 1) := by decide +kernel
theorem dX9_missedOf_13 : decode cX9_missedOf 13 = .ok (.iload_n 1, 1) := by decide +kernel
theorem dX9_missedOf_14 : decode cX9_missedOf 14 = .ok (.iload_n 3, 1) := by decide +kernel
theorem dX9_missedOf_15 : decode cX9_missedOf 15 = .ok (.ishr, 1) := by decide +kernel
theorem dX9_missedOf_16 : decode cX9_missedOf 16 = .ok (.iconst 1, 1) := by decide +kernel
theorem dX9_missedOf_17 : decode cX9_missedOf 17 = .ok (.iand, 1) := by decide +kernel
theorem dX9_missedOf_18 : decode cX9_missedOf 18 = .ok (.iconst 1, 1) := by decide +kernel
theorem dX9_missedOf_19 : decode cX9_missedOf 19 = .ok (.if_icmp .ne 11, 3) := by decide +kernel
theorem dX9_missedOf_22 : decode cX9_missedOf 22 = .ok (.aload_n 0, 1) := by decide +kernel
theorem dX9_missedOf_23 : decode cX9_missedOf 23 = .ok (.iload_n 3, 1) := by decide +kernel
theorem dX9_missedOf_24 : decode cX9_missedOf 24 = .ok (.invokevirtual 124, 3) := by decide +kernel
theorem dX9_missedOf_27 : decode cX9_missedOf 27 = .ok (.goto 4, 3) := by decide +kernel
theorem dX9_missedOf_30 : decode cX9_missedOf 30 = .ok (.iconst 0, 1) := by decide +kernel
theorem dX9_missedOf_31 : decode cX9_missedOf 31 = .ok (.iadd, 1) := by decide +kernel
theorem dX9_missedOf_32 : decode cX9_missedOf 32 = .ok (.istore_n 2, 1) := by decide +kernel
theorem dX9_missedOf_33 : decode cX9_missedOf 33 = .ok (.iinc 3 1, 3) := by decide +kernel
theorem dX9_missedOf_36 : decode cX9_missedOf 36 = .ok (.goto (-32), 3) := by decide +kernel
theorem dX9_missedOf_39 : decode cX9_missedOf 39 = .ok (.iload_n 2, 1) := by decide +kernel
theorem dX9_missedOf_40 : decode cX9_missedOf 40 = .ok (.ireturn, 1) := by decide +kernel
theorem dX9_takenSet_0 : decode cX9_takenSet 0 = .ok (.iconst 0, 1) := by decide +kernel
theorem dX9_takenSet_1 : decode cX9_takenSet 1 = .ok (.istore_n 1, 1) := by decide +kernel
theorem dX9_takenSet_2 : decode cX9_takenSet 2 = .ok (.iconst 0, 1) := by decide +kernel
theorem dX9_takenSet_3 : decode cX9_takenSet 3 = .ok (.istore_n 2, 1) := by decide +kernel
theorem dX9_takenSet_4 : decode cX9_takenSet 4 = .ok (.iload_n 2, 1) := by decide +kernel
theorem dX9_takenSet_5 : decode cX9_takenSet 5 = .ok (.aload_n 0, 1) := by decide +kernel
theorem dX9_takenSet_6 : decode cX9_takenSet 6 = .ok (.getfield 95, 3) := by decide +kernel
theorem dX9_takenSet_9 : decode cX9_takenSet 9 = .ok (.if_icmp .ge 20, 3) := by decide +kernel
theorem dX9_takenSet_12 : decode cX9_takenSet 12 = .ok (.iload_n 1, 1) := by decide +kernel
theorem dX9_takenSet_13 : decode cX9_takenSet 13 = .ok (.aload_n 0, 1) := by decide +kernel
theorem dX9_takenSet_14 : decode cX9_takenSet 14 = .ok (.getfield 25, 3) := by decide +kernel
theorem dX9_takenSet_17 : decode cX9_takenSet 17 = .ok (.iload_n 2, 1) := by decide +kernel
theorem dX9_takenSet_18 : decode cX9_takenSet 18 = .ok (.iaload, 1) := by decide +kernel
theorem dX9_takenSet_19 : decode cX9_takenSet 19 = .ok (.iload_n 2, 1) := by decide +kernel
theorem dX9_takenSet_20 : decode cX9_takenSet 20 = .ok (.ishl, 1) := by decide +kernel
theorem dX9_takenSet_21 : decode cX9_takenSet 21 = .ok (.ior, 1) := by decide +kernel
theorem dX9_takenSet_22 : decode cX9_takenSet 22 = .ok (.istore_n 1, 1) := by decide +kernel
theorem dX9_takenSet_23 : decode cX9_takenSet 23 = .ok (.iinc 2 1, 3) := by decide +kernel
theorem dX9_takenSet_26 : decode cX9_takenSet 26 = .ok (.goto (-22), 3) := by decide +kernel
theorem dX9_takenSet_29 : decode cX9_takenSet 29 = .ok (.iload_n 1, 1) := by decide +kernel
theorem dX9_takenSet_30 : decode cX9_takenSet 30 = .ok (.ireturn, 1) := by decide +kernel
set_option maxRecDepth 20000 in
theorem ggX9_makeUpOf_X9_begin : GoodIn wsX9_makeUpOf wsX9_begin := goodIn_r _ [8, 9, 10, 11, 12, 13, 14, 3, 15, 16, 17, 7, 18, 40, 41, 42, 43, 44, 45, 46, 47, 48, 49, 50, 51, 52, 53, 54, 55, 56, 57, 58, 59, 60, 61, 62, 63, 64, 65, 66, 67, 68, 69, 70, 71, 72, 73] (by decide +kernel) (by decide +kernel)
set_option maxRecDepth 20000 in
theorem gX9_makeUpOf_X9_begin : GoodIn wsX9_makeUpOf (wsV RX9 130 RX9 yX9_begin wsX9_begin) := goodIn_app (goodIn_of _ (by decide +kernel)) ggX9_makeUpOf_X9_begin
set_option maxRecDepth 20000 in
theorem ggX9_makeUpOf_X9_missedOf : GoodIn wsX9_makeUpOf wsX9_missedOf := goodIn_r _ [22, 2, 23, 24, 25, 7, 26, 27, 10, 12, 28, 29, 30, 40, 41, 42, 43, 44, 45, 46, 47, 48, 49, 50, 51, 52, 53, 54, 55, 56, 57, 58, 59, 60, 61, 62, 63, 64, 65, 66, 67, 68, 69, 70, 71, 72, 73] (by decide +kernel) (by decide +kernel)
set_option maxRecDepth 20000 in
theorem gX9_makeUpOf_X9_missedOf : GoodIn wsX9_makeUpOf (wsV RX9 195 RX9 yX9_missedOf wsX9_missedOf) := goodIn_app (goodIn_of _ (by decide +kernel)) ggX9_makeUpOf_X9_missedOf
set_option maxRecDepth 20000 in
theorem ggX9_makeUpOf_X9_worthOf : GoodIn wsX9_makeUpOf wsX9_worthOf := goodIn_r _ [34, 2, 35, 40, 41, 42, 43, 44, 45, 46, 47, 48, 49, 50, 51, 52, 53, 54, 55, 56, 57, 58, 59, 60, 61, 62, 63, 64, 65, 66, 67, 68, 69, 70, 71, 72, 73] (by decide +kernel) (by decide +kernel)
set_option maxRecDepth 20000 in
theorem gX9_makeUpOf_X9_worthOf : GoodIn wsX9_makeUpOf (wsV RX9 198 RX9 yX9_worthOf wsX9_worthOf) := goodIn_app (goodIn_of _ (by decide +kernel)) ggX9_makeUpOf_X9_worthOf
set_option maxRecDepth 20000 in
theorem ggX9_makeUpOf_X9_takenSet : GoodIn wsX9_makeUpOf wsX9_takenSet := goodIn_r _ [39, 2, 13, 40, 41, 42, 43, 44, 45, 46, 47, 48, 49, 50, 51, 52, 53, 54, 55, 56, 57, 58, 59, 60, 61, 62, 63, 64, 65, 66, 67, 68, 69, 70, 71, 72, 73] (by decide +kernel) (by decide +kernel)
set_option maxRecDepth 20000 in
theorem gX9_makeUpOf_X9_takenSet : GoodIn wsX9_makeUpOf (wsV RX9 201 RX9 yX9_takenSet wsX9_takenSet) := goodIn_app (goodIn_of _ (by decide +kernel)) ggX9_makeUpOf_X9_takenSet
theorem dX9_makeUpOf_0 : decode cX9_makeUpOf 0 = .ok (.aload_n 0, 1) := by decide +kernel
theorem dX9_makeUpOf_1 : decode cX9_makeUpOf 1 = .ok (.invokevirtual 130, 3) := by decide +kernel
theorem dX9_makeUpOf_4 : decode cX9_makeUpOf 4 = .ok (.iconst (-1), 1) := by decide +kernel
theorem dX9_makeUpOf_5 : decode cX9_makeUpOf 5 = .ok (.istore_n 2, 1) := by decide +kernel
theorem dX9_makeUpOf_6 : decode cX9_makeUpOf 6 = .ok (.ldc 177, 2) := by decide +kernel
theorem dX9_makeUpOf_8 : decode cX9_makeUpOf 8 = .ok (.istore_n 3, 1) := by decide +kernel
theorem dX9_makeUpOf_9 : decode cX9_makeUpOf 9 = .ok (.iconst 0, 1) := by decide +kernel
theorem dX9_makeUpOf_10 : decode cX9_makeUpOf 10 = .ok (.istore 4, 2) := by decide +kernel
theorem dX9_makeUpOf_12 : decode cX9_makeUpOf 12 = .ok (.iload 4, 2) := by decide +kernel
theorem dX9_makeUpOf_14 : decode cX9_makeUpOf 14 = .ok (.iconst 1, 1) := by decide +kernel
theorem dX9_makeUpOf_15 : decode cX9_makeUpOf 15 = .ok (.aload_n 0, 1) := by decide +kernel
theorem dX9_makeUpOf_16 : decode cX9_makeUpOf 16 = .ok (.getfield 95, 3) := by decide +kernel
theorem dX9_makeUpOf_19 : decode cX9_makeUpOf 19 = .ok (.ishl, 1) := by decide +kernel
theorem dX9_makeUpOf_20 : decode cX9_makeUpOf 20 = .ok (.if_icmp .ge 63, 3) := by decide +kernel
theorem dX9_makeUpOf_23 : decode cX9_makeUpOf 23 = .ok (.sipush 1000, 3) := by decide +kernel
theorem dX9_makeUpOf_26 : decode cX9_makeUpOf 26 = .ok (.aload_n 0, 1) := by decide +kernel
theorem dX9_makeUpOf_27 : decode cX9_makeUpOf 27 = .ok (.iload 4, 2) := by decide +kernel
theorem dX9_makeUpOf_29 : decode cX9_makeUpOf 29 = .ok (.invokevirtual 195, 3) := by decide +kernel
theorem dX9_makeUpOf_32 : decode cX9_makeUpOf 32 = .ok (.imul, 1) := by decide +kernel
theorem dX9_makeUpOf_33 : decode cX9_makeUpOf 33 = .ok (.aload_n 0, 1) := by decide +kernel
theorem dX9_makeUpOf_34 : decode cX9_makeUpOf 34 = .ok (.iload 4, 2) := by decide +kernel
theorem dX9_makeUpOf_36 : decode cX9_makeUpOf 36 = .ok (.invokevirtual 198, 3) := by decide +kernel
theorem dX9_makeUpOf_39 : decode cX9_makeUpOf 39 = .ok (.iadd, 1) := by decide +kernel
theorem dX9_makeUpOf_40 : decode cX9_makeUpOf 40 = .ok (.istore 5, 2) := by decide +kernel
theorem dX9_makeUpOf_42 : decode cX9_makeUpOf 42 = .ok (.iload 4, 2) := by decide +kernel
theorem dX9_makeUpOf_44 : decode cX9_makeUpOf 44 = .ok (.aload_n 0, 1) := by decide +kernel
theorem dX9_makeUpOf_45 : decode cX9_makeUpOf 45 = .ok (.invokevirtual 201, 3) := by decide +kernel
theorem dX9_makeUpOf_48 : decode cX9_makeUpOf 48 = .ok (.iand, 1) := by decide +kernel
theorem dX9_makeUpOf_49 : decode cX9_makeUpOf 49 = .ok (.ifCond .ne 28, 3) := by decide +kernel
theorem dX9_makeUpOf_52 : decode cX9_makeUpOf 52 = .ok (.aload_n 0, 1) := by decide +kernel
theorem dX9_makeUpOf_53 : decode cX9_makeUpOf 53 = .ok (.iload 4, 2) := by decide +kernel
theorem dX9_makeUpOf_55 : decode cX9_makeUpOf 55 = .ok (.invokevirtual 198, 3) := by decide +kernel
theorem dX9_makeUpOf_58 : decode cX9_makeUpOf 58 = .ok (.aload_n 0, 1) := by decide +kernel
theorem dX9_makeUpOf_59 : decode cX9_makeUpOf 59 = .ok (.getfield 98, 3) := by decide +kernel
theorem dX9_makeUpOf_62 : decode cX9_makeUpOf 62 = .ok (.if_icmp .lt 15, 3) := by decide +kernel
theorem dX9_makeUpOf_65 : decode cX9_makeUpOf 65 = .ok (.iload 5, 2) := by decide +kernel
theorem dX9_makeUpOf_67 : decode cX9_makeUpOf 67 = .ok (.iload_n 3, 1) := by decide +kernel
theorem dX9_makeUpOf_68 : decode cX9_makeUpOf 68 = .ok (.if_icmp .ge 9, 3) := by decide +kernel
theorem dX9_makeUpOf_71 : decode cX9_makeUpOf 71 = .ok (.iload 4, 2) := by decide +kernel
theorem dX9_makeUpOf_73 : decode cX9_makeUpOf 73 = .ok (.istore_n 2, 1) := by decide +kernel
theorem dX9_makeUpOf_74 : decode cX9_makeUpOf 74 = .ok (.iload 5, 2) := by decide +kernel
theorem dX9_makeUpOf_76 : decode cX9_makeUpOf 76 = .ok (.istore_n 3, 1) := by decide +kernel
theorem dX9_makeUpOf_77 : decode cX9_makeUpOf 77 = .ok (.iinc 4 1, 3) := by decide +kernel
theorem dX9_makeUpOf_80 : decode cX9_makeUpOf 80 = .ok (.goto (-68), 3) := by decide +kernel
theorem dX9_makeUpOf_83 : decode cX9_makeUpOf 83 = .ok (.iload_n 2, 1) := by decide +kernel
theorem dX9_makeUpOf_84 : decode cX9_makeUpOf 84 = .ok (.iconst (-1), 1) := by decide +kernel
theorem dX9_makeUpOf_85 : decode cX9_makeUpOf 85 = .ok (.if_icmp .eq 8, 3) := by decide +kernel
theorem dX9_makeUpOf_88 : decode cX9_makeUpOf 88 = .ok (.iload_n 1, 1) := by decide +kernel
theorem dX9_makeUpOf_89 : decode cX9_makeUpOf 89 = .ok (.iconst 2, 1) := by decide +kernel
theorem dX9_makeUpOf_90 : decode cX9_makeUpOf 90 = .ok (.if_icmp .ne 5, 3) := by decide +kernel
theorem dX9_makeUpOf_93 : decode cX9_makeUpOf 93 = .ok (.iload_n 2, 1) := by decide +kernel
theorem dX9_makeUpOf_94 : decode cX9_makeUpOf 94 = .ok (.ireturn, 1) := by decide +kernel
theorem dX9_makeUpOf_95 : decode cX9_makeUpOf 95 = .ok (.iload_n 1, 1) := by decide +kernel
theorem dX9_makeUpOf_96 : decode cX9_makeUpOf 96 = .ok (.ifCond .ne 11, 3) := by decide +kernel
theorem dX9_makeUpOf_99 : decode cX9_makeUpOf 99 = .ok (.iload_n 3, 1) := by decide +kernel
theorem dX9_makeUpOf_100 : decode cX9_makeUpOf 100 = .ok (.sipush 1000, 3) := by decide +kernel
theorem dX9_makeUpOf_103 : decode cX9_makeUpOf 103 = .ok (.idiv, 1) := by decide +kernel
theorem dX9_makeUpOf_104 : decode cX9_makeUpOf 104 = .ok (.goto 8, 3) := by decide +kernel
theorem dX9_makeUpOf_107 : decode cX9_makeUpOf 107 = .ok (.iload_n 3, 1) := by decide +kernel
theorem dX9_makeUpOf_108 : decode cX9_makeUpOf 108 = .ok (.sipush 1000, 3) := by decide +kernel
theorem dX9_makeUpOf_111 : decode cX9_makeUpOf 111 = .ok (.irem, 1) := by decide +kernel
theorem dX9_makeUpOf_112 : decode cX9_makeUpOf 112 = .ok (.ireturn, 1) := by decide +kernel
set_option maxRecDepth 20000 in
theorem ggX9_makeUp_X9_in : GoodIn wsX9_makeUp wsX9_in := goodIn_r _ [5] (by decide +kernel) (by decide +kernel)
set_option maxRecDepth 20000 in
theorem gX9_makeUp_X9_in : GoodIn wsX9_makeUp (va_wsS RX9 67 yX9_in wsX9_in) := goodIn_app (goodIn_of _ (by decide +kernel)) ggX9_makeUp_X9_in
set_option maxRecDepth 20000 in
theorem ggX9_makeUp_X9_lacks : GoodIn wsX9_makeUp wsX9_lacks := goodIn_r _ [9, 10, 52, 53, 54, 55, 56, 57, 58, 59, 60, 61, 62, 63, 64, 65, 66, 67, 68, 69, 70, 71, 72, 73, 74, 75, 76, 77, 78, 79, 80, 81, 82, 83, 84, 85] (by decide +kernel) (by decide +kernel)
set_option maxRecDepth 20000 in
theorem gX9_makeUp_X9_lacks : GoodIn wsX9_makeUp (wsV RX9 158 RX9 yX9_lacks wsX9_lacks) := goodIn_app (goodIn_of _ (by decide +kernel)) ggX9_makeUp_X9_lacks
set_option maxRecDepth 20000 in
theorem ggX9_makeUp_X9_makeUpOf : GoodIn wsX9_makeUp wsX9_makeUpOf := goodIn_r _ [14, 15, 10, 16, 17, 18, 19, 4, 20, 21, 22, 23, 24, 25, 26, 27, 28, 29, 30, 31, 32, 33, 34, 35, 36, 37, 38, 39, 40, 41, 42, 43, 44, 45, 46, 47, 48, 49, 50, 51, 52, 53, 54, 55, 56, 57, 58, 59, 60, 61, 62, 63, 64, 65, 66, 67, 68, 69, 70, 71, 72, 73, 74, 75, 76, 77, 78, 79, 80, 81, 82, 83, 84, 85] (by decide +kernel) (by decide +kernel)
set_option maxRecDepth 20000 in
theorem gX9_makeUp_X9_makeUpOf : GoodIn wsX9_makeUp (wsV RX9 206 RX9 yX9_makeUpOf wsX9_makeUpOf) := goodIn_app (goodIn_of _ (by decide +kernel)) ggX9_makeUp_X9_makeUpOf
theorem dX9_makeUp_0 : decode cX9_makeUp 0 = .ok (.iload_n 1, 1) := by decide +kernel
theorem dX9_makeUp_1 : decode cX9_makeUp 1 = .ok (.i2l, 1) := by decide +kernel
theorem dX9_makeUp_2 : decode cX9_makeUp 2 = .ok (.lconst 0, 1) := by decide +kernel
theorem dX9_makeUp_3 : decode cX9_makeUp 3 = .ok (.ldc2_w 204, 3) := by decide +kernel
theorem dX9_makeUp_6 : decode cX9_makeUp 6 = .ok (.invokestatic 67, 3) := by decide +kernel
theorem dX9_makeUp_9 : decode cX9_makeUp 9 = .ok (.ifCond .ne 6, 3) := by decide +kernel
theorem dX9_makeUp_12 : decode cX9_makeUp 12 = .ok (.bipush (-102), 2) := by decide +kernel
theorem dX9_makeUp_14 : decode cX9_makeUp 14 = .ok (.ireturn, 1) := by decide +kernel
theorem dX9_makeUp_15 : decode cX9_makeUp 15 = .ok (.aload_n 0, 1) := by decide +kernel
theorem dX9_makeUp_16 : decode cX9_makeUp 16 = .ok (.invokevirtual 158, 3) := by decide +kernel
theorem dX9_makeUp_19 : decode cX9_makeUp 19 = .ok (.ifCond .eq 8, 3) := by decide +kernel
theorem dX9_makeUp_22 : decode cX9_makeUp 22 = .ok (.bipush (-103), 2) := by decide +kernel
theorem dX9_makeUp_24 : decode cX9_makeUp 24 = .ok (.goto 8, 3) := by decide +kernel
theorem dX9_makeUp_27 : decode cX9_makeUp 27 = .ok (.aload_n 0, 1) := by decide +kernel
theorem dX9_makeUp_28 : decode cX9_makeUp 28 = .ok (.iload_n 1, 1) := by decide +kernel
theorem dX9_makeUp_29 : decode cX9_makeUp 29 = .ok (.invokevirtual 206, 3) := by decide +kernel
theorem dX9_makeUp_32 : decode cX9_makeUp 32 = .ok (.ireturn, 1) := by decide +kernel
set_option maxRecDepth 20000 in
theorem ggX9_oddsOf_X9_begin : GoodIn wsX9_oddsOf wsX9_begin := goodIn_r _ [7, 8, 9, 10, 11, 12, 2, 13, 14, 15, 16, 6, 17, 41, 42, 43, 44, 45, 46, 47, 48, 49, 50, 51, 52, 53, 54, 55, 56, 57, 58, 59, 60, 61, 62, 63, 64, 65, 66, 67, 68, 69, 70, 71, 72, 73, 74] (by decide +kernel) (by decide +kernel)
set_option maxRecDepth 20000 in
theorem gX9_oddsOf_X9_begin : GoodIn wsX9_oddsOf (wsV RX9 130 RX9 yX9_begin wsX9_begin) := goodIn_app (goodIn_of _ (by decide +kernel)) ggX9_oddsOf_X9_begin
set_option maxRecDepth 20000 in
theorem ggX9_oddsOf_X9_figure : GoodIn wsX9_oddsOf wsX9_figure := goodIn_r _ [20] (by decide +kernel) (by decide +kernel)
set_option maxRecDepth 20000 in
theorem gX9_oddsOf_X9_figure : GoodIn wsX9_oddsOf (va_wsS RX9 178 yX9_figure wsX9_figure) := goodIn_app (goodIn_of _ (by decide +kernel)) ggX9_oddsOf_X9_figure
set_option maxRecDepth 20000 in
theorem ggX9_oddsOf_X9_touchThen : GoodIn wsX9_oddsOf wsX9_touchThen := goodIn_r _ [24, 9, 11, 41, 42, 43, 44, 45, 46, 47, 48, 49, 50, 51, 52, 53, 54, 55, 56, 57, 58, 59, 60, 61, 62, 63, 64, 65, 66, 67, 68, 69, 70, 71, 72, 73, 74] (by decide +kernel) (by decide +kernel)
set_option maxRecDepth 20000 in
theorem gX9_oddsOf_X9_touchThen : GoodIn wsX9_oddsOf (wsV RX9 151 RX9 yX9_touchThen wsX9_touchThen) := goodIn_app (goodIn_of _ (by decide +kernel)) ggX9_oddsOf_X9_touchThen
set_option maxRecDepth 20000 in
theorem ggX9_oddsOf_X9_dayThen : GoodIn wsX9_oddsOf wsX9_dayThen := goodIn_r _ [28, 1, 11, 2, 41, 42, 43, 44, 45, 46, 47, 48, 49, 50, 51, 52, 53, 54, 55, 56, 57, 58, 59, 60, 61, 62, 63, 64, 65, 66, 67, 68, 69, 70, 71, 72, 73, 74] (by decide +kernel) (by decide +kernel)
set_option maxRecDepth 20000 in
theorem gX9_oddsOf_X9_dayThen : GoodIn wsX9_oddsOf (wsV RX9 162 RX9 yX9_dayThen wsX9_dayThen) := goodIn_app (goodIn_of _ (by decide +kernel)) ggX9_oddsOf_X9_dayThen
set_option maxRecDepth 20000 in
theorem ggX9_oddsOf_X9_nextThen : GoodIn wsX9_oddsOf wsX9_nextThen := goodIn_r _ [32, 1, 14, 2, 33, 34, 35, 6, 36, 37, 9, 11, 38, 39, 40, 41, 42, 43, 44, 45, 46, 47, 48, 49, 50, 51, 52, 53, 54, 55, 56, 57, 58, 59, 60, 61, 62, 63, 64, 65, 66, 67, 68, 69, 70, 71, 72, 73, 74] (by decide +kernel) (by decide +kernel)
set_option maxRecDepth 20000 in
theorem gX9_oddsOf_X9_nextThen : GoodIn wsX9_oddsOf (wsV RX9 127 RX9 yX9_nextThen wsX9_nextThen) := goodIn_app (goodIn_of _ (by decide +kernel)) ggX9_oddsOf_X9_nextThen
theorem dX9_oddsOf_0 : decode cX9_oddsOf 0 = .ok (.iconst 0, 1) := by decide +kernel
theorem dX9_oddsOf_1 : decode cX9_oddsOf 1 = .ok (.istore 4, 2) := by decide +kernel
theorem dX9_oddsOf_3 : decode cX9_oddsOf 3 = .ok (.iconst 0, 1) := by decide +kernel
theorem dX9_oddsOf_4 : decode cX9_oddsOf 4 = .ok (.istore 5, 2) := by decide +kernel
theorem dX9_oddsOf_6 : decode cX9_oddsOf 6 = .ok (.iconst 0, 1) := by decide +kernel
theorem dX9_oddsOf_7 : decode cX9_oddsOf 7 = .ok (.istore 6, 2) := by decide +kernel
theorem dX9_oddsOf_9 : decode cX9_oddsOf 9 = .ok (.iload 6, 2) := by decide +kernel
theorem dX9_oddsOf_11 : decode cX9_oddsOf 11 = .ok (.iconst 1, 1) := by decide +kernel
theorem dX9_oddsOf_12 : decode cX9_oddsOf 12 = .ok (.iconst 3, 1) := by decide +kernel
theorem dX9_oddsOf_13 : decode cX9_oddsOf 13 = .ok (.iload_n 2, 1) := by decide +kernel
theorem dX9_oddsOf_14 : decode cX9_oddsOf 14 = .ok (.imul, 1) := by decide +kernel
theorem dX9_oddsOf_15 : decode cX9_oddsOf 15 = .ok (.ishl, 1) := by decide +kernel
theorem dX9_oddsOf_16 : decode cX9_oddsOf 16 = .ok (.if_icmp .ge 125, 3) := by decide +kernel
theorem dX9_oddsOf_19 : decode cX9_oddsOf 19 = .ok (.aload_n 0, 1) := by decide +kernel
theorem dX9_oddsOf_20 : decode cX9_oddsOf 20 = .ok (.invokevirtual 130, 3) := by decide +kernel
theorem dX9_oddsOf_23 : decode cX9_oddsOf 23 = .ok (.iconst 1, 1) := by decide +kernel
theorem dX9_oddsOf_24 : decode cX9_oddsOf 24 = .ok (.istore 7, 2) := by decide +kernel
theorem dX9_oddsOf_26 : decode cX9_oddsOf 26 = .ok (.iconst 0, 1) := by decide +kernel
theorem dX9_oddsOf_27 : decode cX9_oddsOf 27 = .ok (.istore 8, 2) := by decide +kernel
theorem dX9_oddsOf_29 : decode cX9_oddsOf 29 = .ok (.iload 8, 2) := by decide +kernel
theorem dX9_oddsOf_31 : decode cX9_oddsOf 31 = .ok (.iload_n 2, 1) := by decide +kernel
theorem dX9_oddsOf_32 : decode cX9_oddsOf 32 = .ok (.if_icmp .ge 65, 3) := by decide +kernel
theorem dX9_oddsOf_35 : decode cX9_oddsOf 35 = .ok (.iload 7, 2) := by decide +kernel
theorem dX9_oddsOf_37 : decode cX9_oddsOf 37 = .ok (.ifCond .eq 60, 3) := by decide +kernel
theorem dX9_oddsOf_40 : decode cX9_oddsOf 40 = .ok (.iload 6, 2) := by decide +kernel
theorem dX9_oddsOf_42 : decode cX9_oddsOf 42 = .ok (.iload_n 2, 1) := by decide +kernel
theorem dX9_oddsOf_43 : decode cX9_oddsOf 43 = .ok (.iload 8, 2) := by decide +kernel
theorem dX9_oddsOf_45 : decode cX9_oddsOf 45 = .ok (.invokestatic 178, 3) := by decide +kernel
theorem dX9_oddsOf_48 : decode cX9_oddsOf 48 = .ok (.istore 9, 2) := by decide +kernel
theorem dX9_oddsOf_50 : decode cX9_oddsOf 50 = .ok (.iload 9, 2) := by decide +kernel
theorem dX9_oddsOf_52 : decode cX9_oddsOf 52 = .ok (.aload_n 0, 1) := by decide +kernel
theorem dX9_oddsOf_53 : decode cX9_oddsOf 53 = .ok (.getfield 95, 3) := by decide +kernel
theorem dX9_oddsOf_56 : decode cX9_oddsOf 56 = .ok (.if_icmp .ge 17, 3) := by decide +kernel
theorem dX9_oddsOf_59 : decode cX9_oddsOf 59 = .ok (.aload_n 0, 1) := by decide +kernel
theorem dX9_oddsOf_60 : decode cX9_oddsOf 60 = .ok (.getfield 34, 3) := by decide +kernel
theorem dX9_oddsOf_63 : decode cX9_oddsOf 63 = .ok (.iload 9, 2) := by decide +kernel
theorem dX9_oddsOf_65 : decode cX9_oddsOf 65 = .ok (.iaload, 1) := by decide +kernel
theorem dX9_oddsOf_66 : decode cX9_oddsOf 66 = .ok (.ifCond .ne 7, 3) := by decide +kernel
theorem dX9_oddsOf_69 : decode cX9_oddsOf 69 = .ok (.iconst 1, 1) := by decide +kernel
theorem dX9_oddsOf_70 : decode cX9_oddsOf 70 = .ok (.goto 4, 3) := by decide +kernel
theorem dX9_oddsOf_73 : decode cX9_oddsOf 73 = .ok (.iconst 0, 1) := by decide +kernel
theorem dX9_oddsOf_74 : decode cX9_oddsOf 74 = .ok (.istore 7, 2) := by decide +kernel
theorem dX9_oddsOf_76 : decode cX9_oddsOf 76 = .ok (.iload 7, 2) := by decide +kernel
theorem dX9_oddsOf_78 : decode cX9_oddsOf 78 = .ok (.ifCond .eq 13, 3) := by decide +kernel
theorem dX9_oddsOf_81 : decode cX9_oddsOf 81 = .ok (.aload_n 0, 1) := by decide +kernel
theorem dX9_oddsOf_82 : decode cX9_oddsOf 82 = .ok (.iload 9, 2) := by decide +kernel
theorem dX9_oddsOf_84 : decode cX9_oddsOf 84 = .ok (.invokevirtual 151, 3) := by decide +kernel
theorem dX9_oddsOf_87 : decode cX9_oddsOf 87 = .ok (.aload_n 0, 1) := by decide +kernel
theorem dX9_oddsOf_88 : decode cX9_oddsOf 88 = .ok (.invokevirtual 162, 3) := by decide +kernel
theorem dX9_oddsOf_91 : decode cX9_oddsOf 91 = .ok (.iinc 8 1, 3) := by decide +kernel
theorem dX9_oddsOf_94 : decode cX9_oddsOf 94 = .ok (.goto (-65), 3) := by decide +kernel
theorem dX9_oddsOf_97 : decode cX9_oddsOf 97 = .ok (.iload 5, 2) := by decide +kernel
theorem dX9_oddsOf_99 : decode cX9_oddsOf 99 = .ok (.iload 7, 2) := by decide +kernel
theorem dX9_oddsOf_101 : decode cX9_oddsOf 101 = .ok (.ifCond .eq 7, 3) := by decide +kernel
theorem dX9_oddsOf_104 : decode cX9_oddsOf 104 = .ok (.iconst 1, 1) := by decide +kernel
theorem dX9_oddsOf_105 : decode cX9_oddsOf 105 = .ok (.goto 4, 3) := by decide +kernel
theorem dX9_oddsOf_108 : decode cX9_oddsOf 108 = .ok (.iconst 0, 1) := by decide +kernel
theorem dX9_oddsOf_109 : decode cX9_oddsOf 109 = .ok (.iadd, 1) := by decide +kernel
theorem dX9_oddsOf_110 : decode cX9_oddsOf 110 = .ok (.istore 5, 2) := by decide +kernel
theorem dX9_oddsOf_112 : decode cX9_oddsOf 112 = .ok (.iload 4, 2) := by decide +kernel
theorem dX9_oddsOf_114 : decode cX9_oddsOf 114 = .ok (.iload 7, 2) := by decide +kernel
theorem dX9_oddsOf_116 : decode cX9_oddsOf 116 = .ok (.ifCond .eq 15, 3) := by decide +kernel
theorem dX9_oddsOf_119 : decode cX9_oddsOf 119 = .ok (.aload_n 0, 1) := by decide +kernel
theorem dX9_oddsOf_120 : decode cX9_oddsOf 120 = .ok (.invokevirtual 127, 3) := by decide +kernel
theorem dX9_oddsOf_123 : decode cX9_oddsOf 123 = .ok (.iload_n 1, 1) := by decide +kernel
theorem dX9_oddsOf_124 : decode cX9_oddsOf 124 = .ok (.if_icmp .ne 7, 3) := by decide +kernel
theorem dX9_oddsOf_127 : decode cX9_oddsOf 127 = .ok (.iconst 1, 1) := by decide +kernel
theorem dX9_oddsOf_128 : decode cX9_oddsOf 128 = .ok (.goto 4, 3) := by decide +kernel
theorem dX9_oddsOf_131 : decode cX9_oddsOf 131 = .ok (.iconst 0, 1) := by decide +kernel
theorem dX9_oddsOf_132 : decode cX9_oddsOf 132 = .ok (.iadd, 1) := by decide +kernel
theorem dX9_oddsOf_133 : decode cX9_oddsOf 133 = .ok (.istore 4, 2) := by decide +kernel
theorem dX9_oddsOf_135 : decode cX9_oddsOf 135 = .ok (.iinc 6 1, 3) := by decide +kernel
theorem dX9_oddsOf_138 : decode cX9_oddsOf 138 = .ok (.goto (-129), 3) := by decide +kernel
theorem dX9_oddsOf_141 : decode cX9_oddsOf 141 = .ok (.iload 5, 2) := by decide +kernel
theorem dX9_oddsOf_143 : decode cX9_oddsOf 143 = .ok (.istore 6, 2) := by decide +kernel
theorem dX9_oddsOf_145 : decode cX9_oddsOf 145 = .ok (.iload 4, 2) := by decide +kernel
theorem dX9_oddsOf_147 : decode cX9_oddsOf 147 = .ok (.istore 7, 2) := by decide +kernel
theorem dX9_oddsOf_149 : decode cX9_oddsOf 149 = .ok (.iload 7, 2) := by decide +kernel
theorem dX9_oddsOf_151 : decode cX9_oddsOf 151 = .ok (.ifCond .le 21, 3) := by decide +kernel
theorem dX9_oddsOf_154 : decode cX9_oddsOf 154 = .ok (.iload 6, 2) := by decide +kernel
theorem dX9_oddsOf_156 : decode cX9_oddsOf 156 = .ok (.iload 7, 2) := by decide +kernel
theorem dX9_oddsOf_158 : decode cX9_oddsOf 158 = .ok (.irem, 1) := by decide +kernel
theorem dX9_oddsOf_159 : decode cX9_oddsOf 159 = .ok (.istore 8, 2) := by decide +kernel
theorem dX9_oddsOf_161 : decode cX9_oddsOf 161 = .ok (.iload 7, 2) := by decide +kernel
theorem dX9_oddsOf_163 : decode cX9_oddsOf 163 = .ok (.istore 6, 2) := by decide +kernel
theorem dX9_oddsOf_165 : decode cX9_oddsOf 165 = .ok (.iload 8, 2) := by decide +kernel
theorem dX9_oddsOf_167 : decode cX9_oddsOf 167 = .ok (.istore 7, 2) := by decide +kernel
theorem dX9_oddsOf_169 : decode cX9_oddsOf 169 = .ok (.goto (-20), 3) := by decide +kernel
theorem dX9_oddsOf_172 : decode cX9_oddsOf 172 = .ok (.iload_n 3, 1) := by decide +kernel
theorem dX9_oddsOf_173 : decode cX9_oddsOf 173 = .ok (.ifCond .ne 11, 3) := by decide +kernel
theorem dX9_oddsOf_176 : decode cX9_oddsOf 176 = .ok (.iload 4, 2) := by decide +kernel
theorem dX9_oddsOf_178 : decode cX9_oddsOf 178 = .ok (.iload 6, 2) := by decide +kernel
theorem dX9_oddsOf_180 : decode cX9_oddsOf 180 = .ok (.idiv, 1) := by decide +kernel
theorem dX9_oddsOf_181 : decode cX9_oddsOf 181 = .ok (.goto 8, 3) := by decide +kernel
theorem dX9_oddsOf_184 : decode cX9_oddsOf 184 = .ok (.iload 5, 2) := by decide +kernel
theorem dX9_oddsOf_186 : decode cX9_oddsOf 186 = .ok (.iload 6, 2) := by decide +kernel
theorem dX9_oddsOf_188 : decode cX9_oddsOf 188 = .ok (.idiv, 1) := by decide +kernel
theorem dX9_oddsOf_189 : decode cX9_oddsOf 189 = .ok (.ireturn, 1) := by decide +kernel
set_option maxRecDepth 20000 in
theorem ggX9_odds_X9_isThing : GoodIn wsX9_odds wsX9_isThing := goodIn_r _ [7, 8, 9, 10, 6, 11, 53, 54, 55, 56, 57, 58, 59, 60, 61, 62, 63, 64, 65, 66, 67, 68, 69, 70, 71, 72, 73, 74, 75, 76, 77, 78, 79, 80, 81, 82, 83, 84, 85, 86] (by decide +kernel) (by decide +kernel)
set_option maxRecDepth 20000 in
theorem gX9_odds_X9_isThing : GoodIn wsX9_odds (wsV RX9 142 RX9 yX9_isThing wsX9_isThing) := goodIn_app (goodIn_of _ (by decide +kernel)) ggX9_odds_X9_isThing
set_option maxRecDepth 20000 in
theorem ggX9_odds_X9_in : GoodIn wsX9_odds wsX9_in := goodIn_r _ [11] (by decide +kernel) (by decide +kernel)
set_option maxRecDepth 20000 in
theorem gX9_odds_X9_in : GoodIn wsX9_odds (va_wsS RX9 67 yX9_in wsX9_in) := goodIn_app (goodIn_of _ (by decide +kernel)) ggX9_odds_X9_in
set_option maxRecDepth 20000 in
theorem ggX9_odds_X9_oddsOf : GoodIn wsX9_odds wsX9_oddsOf := goodIn_r _ [15, 8, 16, 17, 18, 19, 6, 20, 21, 22, 23, 24, 2, 25, 26, 27, 28, 29, 30, 31, 32, 33, 34, 35, 36, 37, 38, 39, 40, 41, 42, 43, 44, 45, 46, 47, 48, 49, 50, 51, 52, 53, 54, 55, 56, 57, 58, 59, 60, 61, 62, 63, 64, 65, 66, 67, 68, 69, 70, 71, 72, 73, 74, 75, 76, 77, 78, 79, 80, 81, 82, 83, 84, 85, 86] (by decide +kernel) (by decide +kernel)
set_option maxRecDepth 20000 in
theorem gX9_odds_X9_oddsOf : GoodIn wsX9_odds (wsV RX9 211 RX9 yX9_oddsOf wsX9_oddsOf) := goodIn_app (goodIn_of _ (by decide +kernel)) ggX9_odds_X9_oddsOf
theorem dX9_odds_0 : decode cX9_odds 0 = .ok (.aload_n 0, 1) := by decide +kernel
theorem dX9_odds_1 : decode cX9_odds 1 = .ok (.iload_n 1, 1) := by decide +kernel
theorem dX9_odds_2 : decode cX9_odds 2 = .ok (.invokevirtual 142, 3) := by decide +kernel
theorem dX9_odds_5 : decode cX9_odds 5 = .ok (.ifCond .ne 6, 3) := by decide +kernel
theorem dX9_odds_8 : decode cX9_odds 8 = .ok (.bipush (-101), 2) := by decide +kernel
theorem dX9_odds_10 : decode cX9_odds 10 = .ok (.ireturn, 1) := by decide +kernel
theorem dX9_odds_11 : decode cX9_odds 11 = .ok (.iload_n 2, 1) := by decide +kernel
theorem dX9_odds_12 : decode cX9_odds 12 = .ok (.i2l, 1) := by decide +kernel
theorem dX9_odds_13 : decode cX9_odds 13 = .ok (.lconst 1, 1) := by decide +kernel
theorem dX9_odds_14 : decode cX9_odds 14 = .ok (.ldc2_w 209, 3) := by decide +kernel
theorem dX9_odds_17 : decode cX9_odds 17 = .ok (.invokestatic 67, 3) := by decide +kernel
theorem dX9_odds_20 : decode cX9_odds 20 = .ok (.ifCond .eq 13, 3) := by decide +kernel
theorem dX9_odds_23 : decode cX9_odds 23 = .ok (.iload_n 3, 1) := by decide +kernel
theorem dX9_odds_24 : decode cX9_odds 24 = .ok (.i2l, 1) := by decide +kernel
theorem dX9_odds_25 : decode cX9_odds 25 = .ok (.lconst 0, 1) := by decide +kernel
theorem dX9_odds_26 : decode cX9_odds 26 = .ok (.lconst 1, 1) := by decide +kernel
theorem dX9_odds_27 : decode cX9_odds 27 = .ok (.invokestatic 67, 3) := by decide +kernel
theorem dX9_odds_30 : decode cX9_odds 30 = .ok (.ifCond .ne 6, 3) := by decide +kernel
theorem dX9_odds_33 : decode cX9_odds 33 = .ok (.bipush (-102), 2) := by decide +kernel
theorem dX9_odds_35 : decode cX9_odds 35 = .ok (.ireturn, 1) := by decide +kernel
theorem dX9_odds_36 : decode cX9_odds 36 = .ok (.aload_n 0, 1) := by decide +kernel
theorem dX9_odds_37 : decode cX9_odds 37 = .ok (.getfield 25, 3) := by decide +kernel
theorem dX9_odds_40 : decode cX9_odds 40 = .ok (.iload_n 1, 1) := by decide +kernel
theorem dX9_odds_41 : decode cX9_odds 41 = .ok (.iaload, 1) := by decide +kernel
theorem dX9_odds_42 : decode cX9_odds 42 = .ok (.iconst 1, 1) := by decide +kernel
theorem dX9_odds_43 : decode cX9_odds 43 = .ok (.if_icmp .ne 8, 3) := by decide +kernel
theorem dX9_odds_46 : decode cX9_odds 46 = .ok (.bipush (-103), 2) := by decide +kernel
theorem dX9_odds_48 : decode cX9_odds 48 = .ok (.goto 10, 3) := by decide +kernel
theorem dX9_odds_51 : decode cX9_odds 51 = .ok (.aload_n 0, 1) := by decide +kernel
theorem dX9_odds_52 : decode cX9_odds 52 = .ok (.iload_n 1, 1) := by decide +kernel
theorem dX9_odds_53 : decode cX9_odds 53 = .ok (.iload_n 2, 1) := by decide +kernel
theorem dX9_odds_54 : decode cX9_odds 54 = .ok (.iload_n 3, 1) := by decide +kernel
theorem dX9_odds_55 : decode cX9_odds 55 = .ok (.invokevirtual 211, 3) := by decide +kernel
theorem dX9_odds_58 : decode cX9_odds 58 = .ok (.ireturn, 1) := by decide +kernel
theorem dX9_wants_0 : decode cX9_wants 0 = .ok (.iload_n 1, 1) := by decide +kernel
theorem dX9_wants_1 : decode cX9_wants 1 = .ok (.iload_n 2, 1) := by decide +kernel
theorem dX9_wants_2 : decode cX9_wants 2 = .ok (.if_icmp .ne 12, 3) := by decide +kernel
theorem dX9_wants_5 : decode cX9_wants 5 = .ok (.aload_n 0, 1) := by decide +kernel
theorem dX9_wants_6 : decode cX9_wants 6 = .ok (.getfield 19, 3) := by decide +kernel
theorem dX9_wants_9 : decode cX9_wants 9 = .ok (.iload_n 2, 1) := by decide +kernel
theorem dX9_wants_10 : decode cX9_wants 10 = .ok (.iaload, 1) := by decide +kernel
theorem dX9_wants_11 : decode cX9_wants 11 = .ok (.goto 17, 3) := by decide +kernel
theorem dX9_wants_14 : decode cX9_wants 14 = .ok (.iload_n 1, 1) := by decide +kernel
theorem dX9_wants_15 : decode cX9_wants 15 = .ok (.iload_n 2, 1) := by decide +kernel
theorem dX9_wants_16 : decode cX9_wants 16 = .ok (.if_icmp .le 9, 3) := by decide +kernel
theorem dX9_wants_19 : decode cX9_wants 19 = .ok (.iload_n 1, 1) := by decide +kernel
theorem dX9_wants_20 : decode cX9_wants 20 = .ok (.iload_n 2, 1) := by decide +kernel
theorem dX9_wants_21 : decode cX9_wants 21 = .ok (.isub, 1) := by decide +kernel
theorem dX9_wants_22 : decode cX9_wants 22 = .ok (.goto 6, 3) := by decide +kernel
theorem dX9_wants_25 : decode cX9_wants 25 = .ok (.iload_n 2, 1) := by decide +kernel
theorem dX9_wants_26 : decode cX9_wants 26 = .ok (.iload_n 1, 1) := by decide +kernel
theorem dX9_wants_27 : decode cX9_wants 27 = .ok (.isub, 1) := by decide +kernel
theorem dX9_wants_28 : decode cX9_wants 28 = .ok (.ireturn, 1) := by decide +kernel
set_option maxRecDepth 20000 in
theorem ggX9_laySale_X9_wants : GoodIn wsX9_laySale wsX9_wants := goodIn_r _ [8, 9, 10, 11, 12, 13, 14, 15, 16, 17, 18, 19, 20, 21, 22, 23, 24, 25, 26, 27, 28, 29, 30, 31, 32, 33, 34, 35, 36, 37, 38, 39, 40, 41, 42, 43] (by decide +kernel) (by decide +kernel)
set_option maxRecDepth 20000 in
theorem gX9_laySale_X9_wants : GoodIn wsX9_laySale (wsV RX9 214 RX9 yX9_wants wsX9_wants) := goodIn_app (goodIn_of _ (by decide +kernel)) ggX9_laySale_X9_wants
theorem dX9_laySale_0 : decode cX9_laySale 0 = .ok (.iconst 0, 1) := by decide +kernel
theorem dX9_laySale_1 : decode cX9_laySale 1 = .ok (.istore_n 1, 1) := by decide +kernel
theorem dX9_laySale_2 : decode cX9_laySale 2 = .ok (.iload_n 1, 1) := by decide +kernel
theorem dX9_laySale_3 : decode cX9_laySale 3 = .ok (.sipush 128, 3) := by decide +kernel
theorem dX9_laySale_6 : decode cX9_laySale 6 = .ok (.if_icmp .ge 25, 3) := by decide +kernel
theorem dX9_laySale_9 : decode cX9_laySale 9 = .ok (.aload_n 0, 1) := by decide +kernel
theorem dX9_laySale_10 : decode cX9_laySale 10 = .ok (.getfield 37, 3) := by decide +kernel
theorem dX9_laySale_13 : decode cX9_laySale 13 = .ok (.sipush 128, 3) := by decide +kernel
theorem dX9_laySale_16 : decode cX9_laySale 16 = .ok (.aload_n 0, 1) := by decide +kernel
theorem dX9_laySale_17 : decode cX9_laySale 17 = .ok (.getfield 95, 3) := by decide +kernel
theorem dX9_laySale_20 : decode cX9_laySale 20 = .ok (.imul, 1) := by decide +kernel
theorem dX9_laySale_21 : decode cX9_laySale 21 = .ok (.iload_n 1, 1) := by decide +kernel
theorem dX9_laySale_22 : decode cX9_laySale 22 = .ok (.iadd, 1) := by decide +kernel
theorem dX9_laySale_23 : decode cX9_laySale 23 = .ok (.iconst 0, 1) := by decide +kernel
theorem dX9_laySale_24 : decode cX9_laySale 24 = .ok (.iastore, 1) := by decide +kernel
theorem dX9_laySale_25 : decode cX9_laySale 25 = .ok (.iinc 1 1, 3) := by decide +kernel
theorem dX9_laySale_28 : decode cX9_laySale 28 = .ok (.goto (-26), 3) := by decide +kernel
theorem dX9_laySale_31 : decode cX9_laySale 31 = .ok (.aload_n 0, 1) := by decide +kernel
theorem dX9_laySale_32 : decode cX9_laySale 32 = .ok (.getfield 95, 3) := by decide +kernel
theorem dX9_laySale_35 : decode cX9_laySale 35 = .ok (.iconst 1, 1) := by decide +kernel
theorem dX9_laySale_36 : decode cX9_laySale 36 = .ok (.isub, 1) := by decide +kernel
theorem dX9_laySale_37 : decode cX9_laySale 37 = .ok (.istore_n 1, 1) := by decide +kernel
theorem dX9_laySale_38 : decode cX9_laySale 38 = .ok (.iload_n 1, 1) := by decide +kernel
theorem dX9_laySale_39 : decode cX9_laySale 39 = .ok (.ifCond .lt 150, 3) := by decide +kernel
theorem dX9_laySale_42 : decode cX9_laySale 42 = .ok (.iconst 0, 1) := by decide +kernel
theorem dX9_laySale_43 : decode cX9_laySale 43 = .ok (.istore_n 2, 1) := by decide +kernel
theorem dX9_laySale_44 : decode cX9_laySale 44 = .ok (.iload_n 2, 1) := by decide +kernel
theorem dX9_laySale_45 : decode cX9_laySale 45 = .ok (.sipush 128, 3) := by decide +kernel
theorem dX9_laySale_48 : decode cX9_laySale 48 = .ok (.if_icmp .ge 135, 3) := by decide +kernel
theorem dX9_laySale_51 : decode cX9_laySale 51 = .ok (.aload_n 0, 1) := by decide +kernel
theorem dX9_laySale_52 : decode cX9_laySale 52 = .ok (.getfield 25, 3) := by decide +kernel
theorem dX9_laySale_55 : decode cX9_laySale 55 = .ok (.iload_n 1, 1) := by decide +kernel
theorem dX9_laySale_56 : decode cX9_laySale 56 = .ok (.iaload, 1) := by decide +kernel
theorem dX9_laySale_57 : decode cX9_laySale 57 = .ok (.ifCond .ne 22, 3) := by decide +kernel
theorem dX9_laySale_60 : decode cX9_laySale 60 = .ok (.aload_n 0, 1) := by decide +kernel
theorem dX9_laySale_61 : decode cX9_laySale 61 = .ok (.getfield 37, 3) := by decide +kernel
theorem dX9_laySale_64 : decode cX9_laySale 64 = .ok (.sipush 128, 3) := by decide +kernel
theorem dX9_laySale_67 : decode cX9_laySale 67 = .ok (.iload_n 1, 1) := by decide +kernel
theorem dX9_laySale_68 : decode cX9_laySale 68 = .ok (.imul, 1) := by decide +kernel
theorem dX9_laySale_69 : decode cX9_laySale 69 = .ok (.sipush 128, 3) := by decide +kernel
theorem dX9_laySale_72 : decode cX9_laySale 72 = .ok (.iadd, 1) := by decide +kernel
theorem dX9_laySale_73 : decode cX9_laySale 73 = .ok (.iload_n 2, 1) := by decide +kernel
theorem dX9_laySale_74 : decode cX9_laySale 74 = .ok (.iadd, 1) := by decide +kernel
theorem dX9_laySale_75 : decode cX9_laySale 75 = .ok (.iaload, 1) := by decide +kernel
theorem dX9_laySale_76 : decode cX9_laySale 76 = .ok (.goto 6, 3) := by decide +kernel
theorem dX9_laySale_79 : decode cX9_laySale 79 = .ok (.sipush (-1000), 3) := by decide +kernel
theorem dX9_laySale_82 : decode cX9_laySale 82 = .ok (.istore_n 3, 1) := by decide +kernel
theorem dX9_laySale_83 : decode cX9_laySale 83 = .ok (.iconst 0, 1) := by decide +kernel
theorem dX9_laySale_84 : decode cX9_laySale 84 = .ok (.istore 4, 2) := by decide +kernel
theorem dX9_laySale_86 : decode cX9_laySale 86 = .ok (.iload 4, 2) := by decide +kernel
theorem dX9_laySale_88 : decode cX9_laySale 88 = .ok (.aload_n 0, 1) := by decide +kernel
theorem dX9_laySale_89 : decode cX9_laySale 89 = .ok (.getfield 95, 3) := by decide +kernel
theorem dX9_laySale_92 : decode cX9_laySale 92 = .ok (.if_icmp .ge 72, 3) := by decide +kernel
theorem dX9_laySale_95 : decode cX9_laySale 95 = .ok (.aload_n 0, 1) := by decide +kernel
theorem dX9_laySale_96 : decode cX9_laySale 96 = .ok (.getfield 25, 3) := by decide +kernel
theorem dX9_laySale_99 : decode cX9_laySale 99 = .ok (.iload_n 1, 1) := by decide +kernel
theorem dX9_laySale_100 : decode cX9_laySale 100 = .ok (.iaload, 1) := by decide +kernel
theorem dX9_laySale_101 : decode cX9_laySale 101 = .ok (.iconst 1, 1) := by decide +kernel
theorem dX9_laySale_102 : decode cX9_laySale 102 = .ok (.if_icmp .ne 62, 3) := by decide +kernel
theorem dX9_laySale_105 : decode cX9_laySale 105 = .ok (.iload_n 2, 1) := by decide +kernel
theorem dX9_laySale_106 : decode cX9_laySale 106 = .ok (.iload 4, 2) := by decide +kernel
theorem dX9_laySale_108 : decode cX9_laySale 108 = .ok (.ishr, 1) := by decide +kernel
theorem dX9_laySale_109 : decode cX9_laySale 109 = .ok (.iconst 1, 1) := by decide +kernel
theorem dX9_laySale_110 : decode cX9_laySale 110 = .ok (.iand, 1) := by decide +kernel
theorem dX9_laySale_111 : decode cX9_laySale 111 = .ok (.ifCond .ne 47, 3) := by decide +kernel
theorem dX9_laySale_114 : decode cX9_laySale 114 = .ok (.aload_n 0, 1) := by decide +kernel
theorem dX9_laySale_115 : decode cX9_laySale 115 = .ok (.iload 4, 2) := by decide +kernel
theorem dX9_laySale_117 : decode cX9_laySale 117 = .ok (.iload_n 1, 1) := by decide +kernel
theorem dX9_laySale_118 : decode cX9_laySale 118 = .ok (.invokevirtual 214, 3) := by decide +kernel
theorem dX9_laySale_121 : decode cX9_laySale 121 = .ok (.aload_n 0, 1) := by decide +kernel
theorem dX9_laySale_122 : decode cX9_laySale 122 = .ok (.getfield 37, 3) := by decide +kernel
theorem dX9_laySale_125 : decode cX9_laySale 125 = .ok (.sipush 128, 3) := by decide +kernel
theorem dX9_laySale_128 : decode cX9_laySale 128 = .ok (.iload_n 1, 1) := by decide +kernel
theorem dX9_laySale_129 : decode cX9_laySale 129 = .ok (.imul, 1) := by decide +kernel
theorem dX9_laySale_130 : decode cX9_laySale 130 = .ok (.sipush 128, 3) := by decide +kernel
theorem dX9_laySale_133 : decode cX9_laySale 133 = .ok (.iadd, 1) := by decide +kernel
theorem dX9_laySale_134 : decode cX9_laySale 134 = .ok (.iload_n 2, 1) := by decide +kernel
theorem dX9_laySale_135 : decode cX9_laySale 135 = .ok (.iconst 1, 1) := by decide +kernel
theorem dX9_laySale_136 : decode cX9_laySale 136 = .ok (.iload 4, 2) := by decide +kernel
theorem dX9_laySale_138 : decode cX9_laySale 138 = .ok (.ishl, 1) := by decide +kernel
theorem dX9_laySale_139 : decode cX9_laySale 139 = .ok (.ior, 1) := by decide +kernel
theorem dX9_laySale_140 : decode cX9_laySale 140 = .ok (.iadd, 1) := by decide +kernel
theorem dX9_laySale_141 : decode cX9_laySale 141 = .ok (.iaload, 1) := by decide +kernel
theorem dX9_laySale_142 : decode cX9_laySale 142 = .ok (.iadd, 1) := by decide +kernel
theorem dX9_laySale_143 : decode cX9_laySale 143 = .ok (.istore 5, 2) := by decide +kernel
theorem dX9_laySale_145 : decode cX9_laySale 145 = .ok (.iload 5, 2) := by decide +kernel
theorem dX9_laySale_147 : decode cX9_laySale 147 = .ok (.iload_n 3, 1) := by decide +kernel
theorem dX9_laySale_148 : decode cX9_laySale 148 = .ok (.if_icmp .le 8, 3) := by decide +kernel
theorem dX9_laySale_151 : decode cX9_laySale 151 = .ok (.iload 5, 2) := by decide +kernel
theorem dX9_laySale_153 : decode cX9_laySale 153 = .ok (.goto 4, 3) := by decide +kernel
theorem dX9_laySale_156 : decode cX9_laySale 156 = .ok (.iload_n 3, 1) := by decide +kernel
theorem dX9_laySale_157 : decode cX9_laySale 157 = .ok (.istore_n 3, 1) := by decide +kernel
theorem dX9_laySale_158 : decode cX9_laySale 158 = .ok (.iinc 4 1, 3) := by decide +kernel
theorem dX9_laySale_161 : decode cX9_laySale 161 = .ok (.goto (-75), 3) := by decide +kernel
theorem dX9_laySale_164 : decode cX9_laySale 164 = .ok (.aload_n 0, 1) := by decide +kernel
theorem dX9_laySale_165 : decode cX9_laySale 165 = .ok (.getfield 37, 3) := by decide +kernel
theorem dX9_laySale_168 : decode cX9_laySale 168 = .ok (.sipush 128, 3) := by decide +kernel
theorem dX9_laySale_171 : decode cX9_laySale 171 = .ok (.iload_n 1, 1) := by decide +kernel
theorem dX9_laySale_172 : decode cX9_laySale 172 = .ok (.imul, 1) := by decide +kernel
theorem dX9_laySale_173 : decode cX9_laySale 173 = .ok (.iload_n 2, 1) := by decide +kernel
theorem dX9_laySale_174 : decode cX9_laySale 174 = .ok (.iadd, 1) := by decide +kernel
theorem dX9_laySale_175 : decode cX9_laySale 175 = .ok (.iload_n 3, 1) := by decide +kernel
theorem dX9_laySale_176 : decode cX9_laySale 176 = .ok (.iastore, 1) := by decide +kernel
theorem dX9_laySale_177 : decode cX9_laySale 177 = .ok (.iinc 2 1, 3) := by decide +kernel
theorem dX9_laySale_180 : decode cX9_laySale 180 = .ok (.goto (-136), 3) := by decide +kernel
theorem dX9_laySale_183 : decode cX9_laySale 183 = .ok (.iinc 1 (-1), 3) := by decide +kernel
theorem dX9_laySale_186 : decode cX9_laySale 186 = .ok (.goto (-148), 3) := by decide +kernel
theorem dX9_laySale_189 : decode cX9_laySale 189 = .ok (.return_, 1) := by decide +kernel
set_option maxRecDepth 20000 in
theorem ggX9_buyerOf_X9_laySale : GoodIn wsX9_buyerOf wsX9_laySale := goodIn_r _ [8, 3, 1, 2, 9, 10, 11, 7, 12, 13, 14, 15, 16, 17, 18, 19, 20, 21, 22, 23, 24, 25, 26, 27, 28, 29, 30, 31, 32, 33, 34, 35, 36, 37, 38, 39, 40, 41, 42, 43, 44, 45, 46, 47] (by decide +kernel) (by decide +kernel)
set_option maxRecDepth 20000 in
theorem gX9_buyerOf_X9_laySale : GoodIn wsX9_buyerOf (wsV RX9 217 RX9 yX9_laySale wsX9_laySale) := goodIn_app (goodIn_of _ (by decide +kernel)) ggX9_buyerOf_X9_laySale
set_option maxRecDepth 20000 in
theorem ggX9_buyerOf_X9_wants : GoodIn wsX9_buyerOf wsX9_wants := goodIn_r _ [12, 13, 14, 15, 16, 17, 18, 19, 20, 21, 22, 23, 24, 25, 26, 27, 28, 29, 30, 31, 32, 33, 34, 35, 36, 37, 38, 39, 40, 41, 42, 43, 44, 45, 46, 47] (by decide +kernel) (by decide +kernel)
set_option maxRecDepth 20000 in
theorem gX9_buyerOf_X9_wants : GoodIn wsX9_buyerOf (wsV RX9 214 RX9 yX9_wants wsX9_wants) := goodIn_app (goodIn_of _ (by decide +kernel)) ggX9_buyerOf_X9_wants
theorem dX9_buyerOf_0 : decode cX9_buyerOf 0 = .ok (.aload_n 0, 1) := by decide +kernel
theorem dX9_buyerOf_1 : decode cX9_buyerOf 1 = .ok (.invokevirtual 217, 3) := by decide +kernel
theorem dX9_buyerOf_4 : decode cX9_buyerOf 4 = .ok (.iconst 0, 1) := by decide +kernel
theorem dX9_buyerOf_5 : decode cX9_buyerOf 5 = .ok (.istore_n 2, 1) := by decide +kernel
theorem dX9_buyerOf_6 : decode cX9_buyerOf 6 = .ok (.iconst (-1), 1) := by decide +kernel
theorem dX9_buyerOf_7 : decode cX9_buyerOf 7 = .ok (.istore_n 3, 1) := by decide +kernel
theorem dX9_buyerOf_8 : decode cX9_buyerOf 8 = .ok (.iconst 0, 1) := by decide +kernel
theorem dX9_buyerOf_9 : decode cX9_buyerOf 9 = .ok (.istore 4, 2) := by decide +kernel
theorem dX9_buyerOf_11 : decode cX9_buyerOf 11 = .ok (.iload 4, 2) := by decide +kernel
theorem dX9_buyerOf_13 : decode cX9_buyerOf 13 = .ok (.iload_n 1, 1) := by decide +kernel
theorem dX9_buyerOf_14 : decode cX9_buyerOf 14 = .ok (.if_icmp .gt 131, 3) := by decide +kernel
theorem dX9_buyerOf_17 : decode cX9_buyerOf 17 = .ok (.iconst (-1), 1) := by decide +kernel
theorem dX9_buyerOf_18 : decode cX9_buyerOf 18 = .ok (.istore_n 3, 1) := by decide +kernel
theorem dX9_buyerOf_19 : decode cX9_buyerOf 19 = .ok (.aload_n 0, 1) := by decide +kernel
theorem dX9_buyerOf_20 : decode cX9_buyerOf 20 = .ok (.getfield 95, 3) := by decide +kernel
theorem dX9_buyerOf_23 : decode cX9_buyerOf 23 = .ok (.iconst 1, 1) := by decide +kernel
theorem dX9_buyerOf_24 : decode cX9_buyerOf 24 = .ok (.isub, 1) := by decide +kernel
theorem dX9_buyerOf_25 : decode cX9_buyerOf 25 = .ok (.istore 5, 2) := by decide +kernel
theorem dX9_buyerOf_27 : decode cX9_buyerOf 27 = .ok (.iload 5, 2) := by decide +kernel
theorem dX9_buyerOf_29 : decode cX9_buyerOf 29 = .ok (.ifCond .lt 95, 3) := by decide +kernel
theorem dX9_buyerOf_32 : decode cX9_buyerOf 32 = .ok (.aload_n 0, 1) := by decide +kernel
theorem dX9_buyerOf_33 : decode cX9_buyerOf 33 = .ok (.getfield 25, 3) := by decide +kernel
theorem dX9_buyerOf_36 : decode cX9_buyerOf 36 = .ok (.iload 4, 2) := by decide +kernel
theorem dX9_buyerOf_38 : decode cX9_buyerOf 38 = .ok (.iaload, 1) := by decide +kernel
theorem dX9_buyerOf_39 : decode cX9_buyerOf 39 = .ok (.iconst 1, 1) := by decide +kernel
theorem dX9_buyerOf_40 : decode cX9_buyerOf 40 = .ok (.if_icmp .ne 84, 3) := by decide +kernel
theorem dX9_buyerOf_43 : decode cX9_buyerOf 43 = .ok (.iload_n 2, 1) := by decide +kernel
theorem dX9_buyerOf_44 : decode cX9_buyerOf 44 = .ok (.iload 5, 2) := by decide +kernel
theorem dX9_buyerOf_46 : decode cX9_buyerOf 46 = .ok (.ishr, 1) := by decide +kernel
theorem dX9_buyerOf_47 : decode cX9_buyerOf 47 = .ok (.iconst 1, 1) := by decide +kernel
theorem dX9_buyerOf_48 : decode cX9_buyerOf 48 = .ok (.iand, 1) := by decide +kernel
theorem dX9_buyerOf_49 : decode cX9_buyerOf 49 = .ok (.ifCond .ne 7, 3) := by decide +kernel
theorem dX9_buyerOf_52 : decode cX9_buyerOf 52 = .ok (.iconst 1, 1) := by decide +kernel
theorem dX9_buyerOf_53 : decode cX9_buyerOf 53 = .ok (.goto 4, 3) := by decide +kernel
theorem dX9_buyerOf_56 : decode cX9_buyerOf 56 = .ok (.iconst 0, 1) := by decide +kernel
theorem dX9_buyerOf_57 : decode cX9_buyerOf 57 = .ok (.istore 6, 2) := by decide +kernel
theorem dX9_buyerOf_59 : decode cX9_buyerOf 59 = .ok (.iload 6, 2) := by decide +kernel
theorem dX9_buyerOf_61 : decode cX9_buyerOf 61 = .ok (.ifCond .eq 55, 3) := by decide +kernel
theorem dX9_buyerOf_64 : decode cX9_buyerOf 64 = .ok (.aload_n 0, 1) := by decide +kernel
theorem dX9_buyerOf_65 : decode cX9_buyerOf 65 = .ok (.iload 5, 2) := by decide +kernel
theorem dX9_buyerOf_67 : decode cX9_buyerOf 67 = .ok (.iload 4, 2) := by decide +kernel
theorem dX9_buyerOf_69 : decode cX9_buyerOf 69 = .ok (.invokevirtual 214, 3) := by decide +kernel
theorem dX9_buyerOf_72 : decode cX9_buyerOf 72 = .ok (.aload_n 0, 1) := by decide +kernel
theorem dX9_buyerOf_73 : decode cX9_buyerOf 73 = .ok (.getfield 37, 3) := by decide +kernel
theorem dX9_buyerOf_76 : decode cX9_buyerOf 76 = .ok (.sipush 128, 3) := by decide +kernel
theorem dX9_buyerOf_79 : decode cX9_buyerOf 79 = .ok (.iload 4, 2) := by decide +kernel
theorem dX9_buyerOf_81 : decode cX9_buyerOf 81 = .ok (.imul, 1) := by decide +kernel
theorem dX9_buyerOf_82 : decode cX9_buyerOf 82 = .ok (.sipush 128, 3) := by decide +kernel
theorem dX9_buyerOf_85 : decode cX9_buyerOf 85 = .ok (.iadd, 1) := by decide +kernel
theorem dX9_buyerOf_86 : decode cX9_buyerOf 86 = .ok (.iload_n 2, 1) := by decide +kernel
theorem dX9_buyerOf_87 : decode cX9_buyerOf 87 = .ok (.iconst 1, 1) := by decide +kernel
theorem dX9_buyerOf_88 : decode cX9_buyerOf 88 = .ok (.iload 5, 2) := by decide +kernel
theorem dX9_buyerOf_90 : decode cX9_buyerOf 90 = .ok (.ishl, 1) := by decide +kernel
theorem dX9_buyerOf_91 : decode cX9_buyerOf 91 = .ok (.ior, 1) := by decide +kernel
theorem dX9_buyerOf_92 : decode cX9_buyerOf 92 = .ok (.iadd, 1) := by decide +kernel
theorem dX9_buyerOf_93 : decode cX9_buyerOf 93 = .ok (.iaload, 1) := by decide +kernel
theorem dX9_buyerOf_94 : decode cX9_buyerOf 94 = .ok (.iadd, 1) := by decide +kernel
theorem dX9_buyerOf_95 : decode cX9_buyerOf 95 = .ok (.aload_n 0, 1) := by decide +kernel
theorem dX9_buyerOf_96 : decode cX9_buyerOf 96 = .ok (.getfield 37, 3) := by decide +kernel
theorem dX9_buyerOf_99 : decode cX9_buyerOf 99 = .ok (.sipush 128, 3) := by decide +kernel
theorem dX9_buyerOf_102 : decode cX9_buyerOf 102 = .ok (.iload 4, 2) := by decide +kernel
theorem dX9_buyerOf_104 : decode cX9_buyerOf 104 = .ok (.imul, 1) := by decide +kernel
theorem dX9_buyerOf_105 : decode cX9_buyerOf 105 = .ok (.iload_n 2, 1) := by decide +kernel
theorem dX9_buyerOf_106 : decode cX9_buyerOf 106 = .ok (.iadd, 1) := by decide +kernel
theorem dX9_buyerOf_107 : decode cX9_buyerOf 107 = .ok (.iaload, 1) := by decide +kernel
theorem dX9_buyerOf_108 : decode cX9_buyerOf 108 = .ok (.if_icmp .ne 8, 3) := by decide +kernel
theorem dX9_buyerOf_111 : decode cX9_buyerOf 111 = .ok (.iload 5, 2) := by decide +kernel
theorem dX9_buyerOf_113 : decode cX9_buyerOf 113 = .ok (.goto 4, 3) := by decide +kernel
theorem dX9_buyerOf_116 : decode cX9_buyerOf 116 = .ok (.iload_n 3, 1) := by decide +kernel
theorem dX9_buyerOf_117 : decode cX9_buyerOf 117 = .ok (.istore_n 3, 1) := by decide +kernel
theorem dX9_buyerOf_118 : decode cX9_buyerOf 118 = .ok (.iinc 5 (-1), 3) := by decide +kernel
theorem dX9_buyerOf_121 : decode cX9_buyerOf 121 = .ok (.goto (-94), 3) := by decide +kernel
theorem dX9_buyerOf_124 : decode cX9_buyerOf 124 = .ok (.iload_n 2, 1) := by decide +kernel
theorem dX9_buyerOf_125 : decode cX9_buyerOf 125 = .ok (.iload_n 3, 1) := by decide +kernel
theorem dX9_buyerOf_126 : decode cX9_buyerOf 126 = .ok (.iconst (-1), 1) := by decide +kernel
theorem dX9_buyerOf_127 : decode cX9_buyerOf 127 = .ok (.if_icmp .ne 7, 3) := by decide +kernel
theorem dX9_buyerOf_130 : decode cX9_buyerOf 130 = .ok (.iconst 0, 1) := by decide +kernel
theorem dX9_buyerOf_131 : decode cX9_buyerOf 131 = .ok (.goto 6, 3) := by decide +kernel
theorem dX9_buyerOf_134 : decode cX9_buyerOf 134 = .ok (.iconst 1, 1) := by decide +kernel
theorem dX9_buyerOf_135 : decode cX9_buyerOf 135 = .ok (.iload_n 3, 1) := by decide +kernel
theorem dX9_buyerOf_136 : decode cX9_buyerOf 136 = .ok (.ishl, 1) := by decide +kernel
theorem dX9_buyerOf_137 : decode cX9_buyerOf 137 = .ok (.ior, 1) := by decide +kernel
theorem dX9_buyerOf_138 : decode cX9_buyerOf 138 = .ok (.istore_n 2, 1) := by decide +kernel
theorem dX9_buyerOf_139 : decode cX9_buyerOf 139 = .ok (.iinc 4 1, 3) := by decide +kernel
theorem dX9_buyerOf_142 : decode cX9_buyerOf 142 = .ok (.goto (-131), 3) := by decide +kernel
theorem dX9_buyerOf_145 : decode cX9_buyerOf 145 = .ok (.iload_n 3, 1) := by decide +kernel
theorem dX9_buyerOf_146 : decode cX9_buyerOf 146 = .ok (.ireturn, 1) := by decide +kernel
