theorem dX7_init_0 : decode cX7_init 0 = .ok (.aload_n 0, 1) := by decide +kernel
theorem dX7_init_1 : decode cX7_init 1 = .ok (.invokespecial 3, 3) := by decide +kernel
theorem dX7_init_4 : decode cX7_init 4 = .ok (.aload_n 0, 1) := by decide +kernel
theorem dX7_init_5 : decode cX7_init 5 = .ok (.bipush 6, 2) := by decide +kernel
theorem dX7_init_7 : decode cX7_init 7 = .ok (.newarray .int, 2) := by decide +kernel
theorem dX7_init_9 : decode cX7_init 9 = .ok (.putfield 9, 3) := by decide +kernel
theorem dX7_init_12 : decode cX7_init 12 = .ok (.aload_n 0, 1) := by decide +kernel
theorem dX7_init_13 : decode cX7_init 13 = .ok (.bipush 6, 2) := by decide +kernel
theorem dX7_init_15 : decode cX7_init 15 = .ok (.newarray .int, 2) := by decide +kernel
theorem dX7_init_17 : decode cX7_init 17 = .ok (.putfield 15, 3) := by decide +kernel
theorem dX7_init_20 : decode cX7_init 20 = .ok (.aload_n 0, 1) := by decide +kernel
theorem dX7_init_21 : decode cX7_init 21 = .ok (.bipush 6, 2) := by decide +kernel
theorem dX7_init_23 : decode cX7_init 23 = .ok (.newarray .int, 2) := by decide +kernel
theorem dX7_init_25 : decode cX7_init 25 = .ok (.putfield 18, 3) := by decide +kernel
theorem dX7_init_28 : decode cX7_init 28 = .ok (.aload_n 0, 1) := by decide +kernel
theorem dX7_init_29 : decode cX7_init 29 = .ok (.bipush 21, 2) := by decide +kernel
theorem dX7_init_31 : decode cX7_init 31 = .ok (.newarray .int, 2) := by decide +kernel
theorem dX7_init_33 : decode cX7_init 33 = .ok (.putfield 21, 3) := by decide +kernel
theorem dX7_init_36 : decode cX7_init 36 = .ok (.return_, 1) := by decide +kernel
theorem dX7_copyFrom_0 : decode cX7_copyFrom 0 = .ok (.aload_n 1, 1) := by decide +kernel
theorem dX7_copyFrom_1 : decode cX7_copyFrom 1 = .ok (.getfield 9, 3) := by decide +kernel
theorem dX7_copyFrom_4 : decode cX7_copyFrom 4 = .ok (.iconst 0, 1) := by decide +kernel
theorem dX7_copyFrom_5 : decode cX7_copyFrom 5 = .ok (.aload_n 0, 1) := by decide +kernel
theorem dX7_copyFrom_6 : decode cX7_copyFrom 6 = .ok (.getfield 9, 3) := by decide +kernel
theorem dX7_copyFrom_9 : decode cX7_copyFrom 9 = .ok (.iconst 0, 1) := by decide +kernel
theorem dX7_copyFrom_10 : decode cX7_copyFrom 10 = .ok (.bipush 6, 2) := by decide +kernel
theorem dX7_copyFrom_12 : decode cX7_copyFrom 12 = .ok (.invokestatic 24, 3) := by decide +kernel
theorem dX7_copyFrom_15 : decode cX7_copyFrom 15 = .ok (.aload_n 1, 1) := by decide +kernel
theorem dX7_copyFrom_16 : decode cX7_copyFrom 16 = .ok (.getfield 15, 3) := by decide +kernel
theorem dX7_copyFrom_19 : decode cX7_copyFrom 19 = .ok (.iconst 0, 1) := by decide +kernel
theorem dX7_copyFrom_20 : decode cX7_copyFrom 20 = .ok (.aload_n 0, 1) := by decide +kernel
theorem dX7_copyFrom_21 : decode cX7_copyFrom 21 = .ok (.getfield 15, 3) := by decide +kernel
theorem dX7_copyFrom_24 : decode cX7_copyFrom 24 = .ok (.iconst 0, 1) := by decide +kernel
theorem dX7_copyFrom_25 : decode cX7_copyFrom 25 = .ok (.bipush 6, 2) := by decide +kernel
theorem dX7_copyFrom_27 : decode cX7_copyFrom 27 = .ok (.invokestatic 24, 3) := by decide +kernel
theorem dX7_copyFrom_30 : decode cX7_copyFrom 30 = .ok (.aload_n 1, 1) := by decide +kernel
theorem dX7_copyFrom_31 : decode cX7_copyFrom 31 = .ok (.getfield 18, 3) := by decide +kernel
theorem dX7_copyFrom_34 : decode cX7_copyFrom 34 = .ok (.iconst 0, 1) := by decide +kernel
theorem dX7_copyFrom_35 : decode cX7_copyFrom 35 = .ok (.aload_n 0, 1) := by decide +kernel
theorem dX7_copyFrom_36 : decode cX7_copyFrom 36 = .ok (.getfield 18, 3) := by decide +kernel
theorem dX7_copyFrom_39 : decode cX7_copyFrom 39 = .ok (.iconst 0, 1) := by decide +kernel
theorem dX7_copyFrom_40 : decode cX7_copyFrom 40 = .ok (.bipush 6, 2) := by decide +kernel
theorem dX7_copyFrom_42 : decode cX7_copyFrom 42 = .ok (.invokestatic 24, 3) := by decide +kernel
theorem dX7_copyFrom_45 : decode cX7_copyFrom 45 = .ok (.aload_n 0, 1) := by decide +kernel
theorem dX7_copyFrom_46 : decode cX7_copyFrom 46 = .ok (.aload_n 1, 1) := by decide +kernel
theorem dX7_copyFrom_47 : decode cX7_copyFrom 47 = .ok (.getfield 30, 3) := by decide +kernel
theorem dX7_copyFrom_50 : decode cX7_copyFrom 50 = .ok (.putfield 30, 3) := by decide +kernel
theorem dX7_copyFrom_53 : decode cX7_copyFrom 53 = .ok (.return_, 1) := by decide +kernel
theorem dX7_add_0 : decode cX7_add 0 = .ok (.aload_n 0, 1) := by decide +kernel
theorem dX7_add_1 : decode cX7_add 1 = .ok (.getfield 30, 3) := by decide +kernel
theorem dX7_add_4 : decode cX7_add 4 = .ok (.bipush 6, 2) := by decide +kernel
theorem dX7_add_6 : decode cX7_add 6 = .ok (.if_icmp .lt 5, 3) := by decide +kernel
theorem dX7_add_9 : decode cX7_add 9 = .ok (.iconst 0, 1) := by decide +kernel
theorem dX7_add_10 : decode cX7_add 10 = .ok (.ireturn, 1) := by decide +kernel
theorem dX7_add_11 : decode cX7_add 11 = .ok (.aload_n 0, 1) := by decide +kernel
theorem dX7_add_12 : decode cX7_add 12 = .ok (.getfield 9, 3) := by decide +kernel
theorem dX7_add_15 : decode cX7_add 15 = .ok (.aload_n 0, 1) := by decide +kernel
theorem dX7_add_16 : decode cX7_add 16 = .ok (.getfield 30, 3) := by decide +kernel
theorem dX7_add_19 : decode cX7_add 19 = .ok (.iload_n 1, 1) := by decide +kernel
theorem dX7_add_20 : decode cX7_add 20 = .ok (.iastore, 1) := by decide +kernel
theorem dX7_add_21 : decode cX7_add 21 = .ok (.aload_n 0, 1) := by decide +kernel
theorem dX7_add_22 : decode cX7_add 22 = .ok (.getfield 15, 3) := by decide +kernel
theorem dX7_add_25 : decode cX7_add 25 = .ok (.aload_n 0, 1) := by decide +kernel
theorem dX7_add_26 : decode cX7_add 26 = .ok (.getfield 30, 3) := by decide +kernel
theorem dX7_add_29 : decode cX7_add 29 = .ok (.iload_n 2, 1) := by decide +kernel
theorem dX7_add_30 : decode cX7_add 30 = .ok (.iastore, 1) := by decide +kernel
theorem dX7_add_31 : decode cX7_add 31 = .ok (.aload_n 0, 1) := by decide +kernel
theorem dX7_add_32 : decode cX7_add 32 = .ok (.getfield 18, 3) := by decide +kernel
theorem dX7_add_35 : decode cX7_add 35 = .ok (.aload_n 0, 1) := by decide +kernel
theorem dX7_add_36 : decode cX7_add 36 = .ok (.getfield 30, 3) := by decide +kernel
theorem dX7_add_39 : decode cX7_add 39 = .ok (.iload_n 3, 1) := by decide +kernel
theorem dX7_add_40 : decode cX7_add 40 = .ok (.iastore, 1) := by decide +kernel
theorem dX7_add_41 : decode cX7_add 41 = .ok (.aload_n 0, 1) := by decide +kernel
theorem dX7_add_42 : decode cX7_add 42 = .ok (.dup, 1) := by decide +kernel
theorem dX7_add_43 : decode cX7_add 43 = .ok (.getfield 30, 3) := by decide +kernel
theorem dX7_add_46 : decode cX7_add 46 = .ok (.iconst 1, 1) := by decide +kernel
theorem dX7_add_47 : decode cX7_add 47 = .ok (.iadd, 1) := by decide +kernel
theorem dX7_add_48 : decode cX7_add 48 = .ok (.putfield 30, 3) := by decide +kernel
theorem dX7_add_51 : decode cX7_add 51 = .ok (.iconst 1, 1) := by decide +kernel
theorem dX7_add_52 : decode cX7_add 52 = .ok (.ireturn, 1) := by decide +kernel
set_option maxRecDepth 20000 in
theorem ggX7_looksOf_X7_agrees : GoodIn wsX7_looksOf wsX7_agrees := goodIn_r _ [5, 6, 7, 8, 9, 10, 11, 12, 13, 14, 15, 16, 17, 18, 19, 20, 21, 22, 23, 24, 25, 26, 27, 28, 29, 30, 31, 32, 33, 34, 35, 36, 37, 38, 39, 40, 41, 42, 43] (by decide +kernel) (by decide +kernel)
set_option maxRecDepth 20000 in
theorem gX7_looksOf_X7_agrees : GoodIn wsX7_looksOf (wsV RX7 34 RX7 yX7_agrees wsX7_agrees) := goodIn_app (goodIn_of _ (by decide +kernel)) ggX7_looksOf_X7_agrees
theorem dX7_looksOf_0 : decode cX7_looksOf 0 = .ok (.iconst 0, 1) := by decide +kernel
theorem dX7_looksOf_1 : decode cX7_looksOf 1 = .ok (.istore_n 3, 1) := by decide +kernel
theorem dX7_looksOf_2 : decode cX7_looksOf 2 = .ok (.iconst 0, 1) := by decide +kernel
theorem dX7_looksOf_3 : decode cX7_looksOf 3 = .ok (.istore 4, 2) := by decide +kernel
theorem dX7_looksOf_5 : decode cX7_looksOf 5 = .ok (.iload 4, 2) := by decide +kernel
theorem dX7_looksOf_7 : decode cX7_looksOf 7 = .ok (.bipush 20, 2) := by decide +kernel
theorem dX7_looksOf_9 : decode cX7_looksOf 9 = .ok (.if_icmp .gt 31, 3) := by decide +kernel
theorem dX7_looksOf_12 : decode cX7_looksOf 12 = .ok (.iload_n 3, 1) := by decide +kernel
theorem dX7_looksOf_13 : decode cX7_looksOf 13 = .ok (.aload_n 0, 1) := by decide +kernel
theorem dX7_looksOf_14 : decode cX7_looksOf 14 = .ok (.aload_n 1, 1) := by decide +kernel
theorem dX7_looksOf_15 : decode cX7_looksOf 15 = .ok (.iload_n 2, 1) := by decide +kernel
theorem dX7_looksOf_16 : decode cX7_looksOf 16 = .ok (.iload 4, 2) := by decide +kernel
theorem dX7_looksOf_18 : decode cX7_looksOf 18 = .ok (.invokevirtual 34, 3) := by decide +kernel
theorem dX7_looksOf_21 : decode cX7_looksOf 21 = .ok (.ifCond .eq 10, 3) := by decide +kernel
theorem dX7_looksOf_24 : decode cX7_looksOf 24 = .ok (.iconst 1, 1) := by decide +kernel
theorem dX7_looksOf_25 : decode cX7_looksOf 25 = .ok (.iload 4, 2) := by decide +kernel
theorem dX7_looksOf_27 : decode cX7_looksOf 27 = .ok (.ishl, 1) := by decide +kernel
theorem dX7_looksOf_28 : decode cX7_looksOf 28 = .ok (.goto 4, 3) := by decide +kernel
theorem dX7_looksOf_31 : decode cX7_looksOf 31 = .ok (.iconst 0, 1) := by decide +kernel
theorem dX7_looksOf_32 : decode cX7_looksOf 32 = .ok (.ior, 1) := by decide +kernel
theorem dX7_looksOf_33 : decode cX7_looksOf 33 = .ok (.istore_n 3, 1) := by decide +kernel
theorem dX7_looksOf_34 : decode cX7_looksOf 34 = .ok (.iinc 4 1, 3) := by decide +kernel
theorem dX7_looksOf_37 : decode cX7_looksOf 37 = .ok (.goto (-32), 3) := by decide +kernel
theorem dX7_looksOf_40 : decode cX7_looksOf 40 = .ok (.iload_n 3, 1) := by decide +kernel
theorem dX7_looksOf_41 : decode cX7_looksOf 41 = .ok (.ireturn, 1) := by decide +kernel
set_option maxRecDepth 20000 in
theorem ggX7_watchOf_X7_looksOf : GoodIn wsX7_watchOf wsX7_looksOf := goodIn_r _ [6, 7, 8, 9, 5, 10, 11, 12, 1, 13, 14, 15, 16, 17, 18, 19, 20, 21, 22, 23, 24, 25, 26, 27, 28, 29, 30, 31, 32, 33, 49, 50, 51, 52, 53, 40, 41, 42, 43, 44, 45, 46, 47, 48] (by decide +kernel) (by decide +kernel)
set_option maxRecDepth 20000 in
theorem gX7_watchOf_X7_looksOf : GoodIn wsX7_watchOf (wsV RX7 38 RX7 yX7_looksOf wsX7_looksOf) := goodIn_app (goodIn_of _ (by decide +kernel)) ggX7_watchOf_X7_looksOf
set_option maxRecDepth 20000 in
theorem ggX7_watchOf_X3_sinceBehind : GoodIn wsX7_watchOf wsX3_sinceBehind := goodIn_r _ [19, 20, 21, 22, 23, 24, 25, 26, 27, 28, 40, 41, 42, 43, 44, 45, 46, 47, 48] (by decide +kernel) (by decide +kernel)
set_option maxRecDepth 20000 in
theorem gX7_watchOf_X3_sinceBehind : GoodIn wsX7_watchOf (wsV RX7 47 RX3 yX3_sinceBehind wsX3_sinceBehind) := goodIn_app (goodIn_of _ (by decide +kernel)) ggX7_watchOf_X3_sinceBehind
set_option maxRecDepth 20000 in
theorem ggX7_watchOf_X7_mostLeft : GoodIn wsX7_watchOf wsX7_mostLeft := goodIn_r _ [37, 38, 39, 32, 24, 33, 26, 27, 28, 29, 30, 31, 49, 50, 51, 52, 53] (by decide +kernel) (by decide +kernel)
set_option maxRecDepth 20000 in
theorem gX7_watchOf_X7_mostLeft : GoodIn wsX7_watchOf (wsV RX7 51 RX7 yX7_mostLeft wsX7_mostLeft) := goodIn_app (goodIn_of _ (by decide +kernel)) ggX7_watchOf_X7_mostLeft
theorem dX7_watchOf_0 : decode cX7_watchOf 0 = .ok (.aload_n 0, 1) := by decide +kernel
theorem dX7_watchOf_1 : decode cX7_watchOf 1 = .ok (.aload_n 1, 1) := by decide +kernel
theorem dX7_watchOf_2 : decode cX7_watchOf 2 = .ok (.iload_n 2, 1) := by decide +kernel
theorem dX7_watchOf_3 : decode cX7_watchOf 3 = .ok (.invokevirtual 38, 3) := by decide +kernel
theorem dX7_watchOf_6 : decode cX7_watchOf 6 = .ok (.istore_n 3, 1) := by decide +kernel
theorem dX7_watchOf_7 : decode cX7_watchOf 7 = .ok (.iload_n 3, 1) := by decide +kernel
theorem dX7_watchOf_8 : decode cX7_watchOf 8 = .ok (.ifCond .ne 5, 3) := by decide +kernel
theorem dX7_watchOf_11 : decode cX7_watchOf 11 = .ok (.iconst (-1), 1) := by decide +kernel
theorem dX7_watchOf_12 : decode cX7_watchOf 12 = .ok (.ireturn, 1) := by decide +kernel
theorem dX7_watchOf_13 : decode cX7_watchOf 13 = .ok (.iconst 0, 1) := by decide +kernel
theorem dX7_watchOf_14 : decode cX7_watchOf 14 = .ok (.istore 4, 2) := by decide +kernel
theorem dX7_watchOf_16 : decode cX7_watchOf 16 = .ok (.bipush 22, 2) := by decide +kernel
theorem dX7_watchOf_18 : decode cX7_watchOf 18 = .ok (.istore 5, 2) := by decide +kernel
theorem dX7_watchOf_20 : decode cX7_watchOf 20 = .ok (.iconst 0, 1) := by decide +kernel
theorem dX7_watchOf_21 : decode cX7_watchOf 21 = .ok (.istore 6, 2) := by decide +kernel
theorem dX7_watchOf_23 : decode cX7_watchOf 23 = .ok (.iload 6, 2) := by decide +kernel
theorem dX7_watchOf_25 : decode cX7_watchOf 25 = .ok (.bipush 9, 2) := by decide +kernel
theorem dX7_watchOf_27 : decode cX7_watchOf 27 = .ok (.if_icmp .gt 44, 3) := by decide +kernel
theorem dX7_watchOf_30 : decode cX7_watchOf 30 = .ok (.aload_n 0, 1) := by decide +kernel
theorem dX7_watchOf_31 : decode cX7_watchOf 31 = .ok (.iload_n 3, 1) := by decide +kernel
theorem dX7_watchOf_32 : decode cX7_watchOf 32 = .ok (.aload_n 1, 1) := by decide +kernel
theorem dX7_watchOf_33 : decode cX7_watchOf 33 = .ok (.getfield 42, 3) := by decide +kernel
theorem dX7_watchOf_36 : decode cX7_watchOf 36 = .ok (.iload_n 2, 1) := by decide +kernel
theorem dX7_watchOf_37 : decode cX7_watchOf 37 = .ok (.iaload, 1) := by decide +kernel
theorem dX7_watchOf_38 : decode cX7_watchOf 38 = .ok (.aload_n 1, 1) := by decide +kernel
theorem dX7_watchOf_39 : decode cX7_watchOf 39 = .ok (.iload_n 2, 1) := by decide +kernel
theorem dX7_watchOf_40 : decode cX7_watchOf 40 = .ok (.iload 6, 2) := by decide +kernel
theorem dX7_watchOf_42 : decode cX7_watchOf 42 = .ok (.invokevirtual 47, 3) := by decide +kernel
theorem dX7_watchOf_45 : decode cX7_watchOf 45 = .ok (.invokevirtual 51, 3) := by decide +kernel
theorem dX7_watchOf_48 : decode cX7_watchOf 48 = .ok (.istore 7, 2) := by decide +kernel
theorem dX7_watchOf_50 : decode cX7_watchOf 50 = .ok (.iload 7, 2) := by decide +kernel
theorem dX7_watchOf_52 : decode cX7_watchOf 52 = .ok (.iload 5, 2) := by decide +kernel
theorem dX7_watchOf_54 : decode cX7_watchOf 54 = .ok (.if_icmp .ge 11, 3) := by decide +kernel
theorem dX7_watchOf_57 : decode cX7_watchOf 57 = .ok (.iload 7, 2) := by decide +kernel
theorem dX7_watchOf_59 : decode cX7_watchOf 59 = .ok (.istore 5, 2) := by decide +kernel
theorem dX7_watchOf_61 : decode cX7_watchOf 61 = .ok (.iload 6, 2) := by decide +kernel
theorem dX7_watchOf_63 : decode cX7_watchOf 63 = .ok (.istore 4, 2) := by decide +kernel
theorem dX7_watchOf_65 : decode cX7_watchOf 65 = .ok (.iinc 6 1, 3) := by decide +kernel
theorem dX7_watchOf_68 : decode cX7_watchOf 68 = .ok (.goto (-45), 3) := by decide +kernel
theorem dX7_watchOf_71 : decode cX7_watchOf 71 = .ok (.iload 4, 2) := by decide +kernel
theorem dX7_watchOf_73 : decode cX7_watchOf 73 = .ok (.ireturn, 1) := by decide +kernel
set_option maxRecDepth 20000 in
theorem ggX7_agrees_X3_sinceBehind : GoodIn wsX7_agrees wsX3_sinceBehind := goodIn_r _ [10, 11, 12, 13, 14, 15, 16, 17, 18, 19, 30, 31, 32, 33, 34, 35, 36, 37, 38] (by decide +kernel) (by decide +kernel)
set_option maxRecDepth 20000 in
theorem gX7_agrees_X3_sinceBehind : GoodIn wsX7_agrees (wsV RX7 47 RX3 yX3_sinceBehind wsX3_sinceBehind) := goodIn_app (goodIn_of _ (by decide +kernel)) ggX7_agrees_X3_sinceBehind
set_option maxRecDepth 20000 in
theorem ggX7_agrees_X8_missedBy : GoodIn wsX7_agrees wsX8_missedBy := goodIn_r _ [21, 22, 23, 15, 24] (by decide +kernel) (by decide +kernel)
set_option maxRecDepth 20000 in
theorem gX7_agrees_X8_missedBy_n55 : GoodIn wsX7_agrees (wsX8_missedBy) := ggX7_agrees_X8_missedBy
theorem dX7_agrees_0 : decode cX7_agrees 0 = .ok (.iconst 0, 1) := by decide +kernel
theorem dX7_agrees_1 : decode cX7_agrees 1 = .ok (.istore 4, 2) := by decide +kernel
theorem dX7_agrees_3 : decode cX7_agrees 3 = .ok (.iload 4, 2) := by decide +kernel
theorem dX7_agrees_5 : decode cX7_agrees 5 = .ok (.aload_n 0, 1) := by decide +kernel
theorem dX7_agrees_6 : decode cX7_agrees 6 = .ok (.getfield 30, 3) := by decide +kernel
theorem dX7_agrees_9 : decode cX7_agrees 9 = .ok (.if_icmp .ge 54, 3) := by decide +kernel
theorem dX7_agrees_12 : decode cX7_agrees 12 = .ok (.aload_n 0, 1) := by decide +kernel
theorem dX7_agrees_13 : decode cX7_agrees 13 = .ok (.getfield 9, 3) := by decide +kernel
theorem dX7_agrees_16 : decode cX7_agrees 16 = .ok (.iload 4, 2) := by decide +kernel
theorem dX7_agrees_18 : decode cX7_agrees 18 = .ok (.iaload, 1) := by decide +kernel
theorem dX7_agrees_19 : decode cX7_agrees 19 = .ok (.iload_n 2, 1) := by decide +kernel
theorem dX7_agrees_20 : decode cX7_agrees 20 = .ok (.if_icmp .ne 37, 3) := by decide +kernel
theorem dX7_agrees_23 : decode cX7_agrees 23 = .ok (.aload_n 1, 1) := by decide +kernel
theorem dX7_agrees_24 : decode cX7_agrees 24 = .ok (.getfield 42, 3) := by decide +kernel
theorem dX7_agrees_27 : decode cX7_agrees 27 = .ok (.iload_n 2, 1) := by decide +kernel
theorem dX7_agrees_28 : decode cX7_agrees 28 = .ok (.iaload, 1) := by decide +kernel
theorem dX7_agrees_29 : decode cX7_agrees 29 = .ok (.iload_n 3, 1) := by decide +kernel
theorem dX7_agrees_30 : decode cX7_agrees 30 = .ok (.aload_n 1, 1) := by decide +kernel
theorem dX7_agrees_31 : decode cX7_agrees 31 = .ok (.iload_n 2, 1) := by decide +kernel
theorem dX7_agrees_32 : decode cX7_agrees 32 = .ok (.aload_n 0, 1) := by decide +kernel
theorem dX7_agrees_33 : decode cX7_agrees 33 = .ok (.getfield 15, 3) := by decide +kernel
theorem dX7_agrees_36 : decode cX7_agrees 36 = .ok (.iload 4, 2) := by decide +kernel
theorem dX7_agrees_38 : decode cX7_agrees 38 = .ok (.iaload, 1) := by decide +kernel
theorem dX7_agrees_39 : decode cX7_agrees 39 = .ok (.invokevirtual 47, 3) := by decide +kernel
theorem dX7_agrees_42 : decode cX7_agrees 42 = .ok (.invokestatic 55, 3) := by decide +kernel
theorem dX7_agrees_45 : decode cX7_agrees 45 = .ok (.aload_n 0, 1) := by decide +kernel
theorem dX7_agrees_46 : decode cX7_agrees 46 = .ok (.getfield 18, 3) := by decide +kernel
theorem dX7_agrees_49 : decode cX7_agrees 49 = .ok (.iload 4, 2) := by decide +kernel
theorem dX7_agrees_51 : decode cX7_agrees 51 = .ok (.iaload, 1) := by decide +kernel
theorem dX7_agrees_52 : decode cX7_agrees 52 = .ok (.if_icmp .eq 5, 3) := by decide +kernel
theorem dX7_agrees_55 : decode cX7_agrees 55 = .ok (.iconst 0, 1) := by decide +kernel
theorem dX7_agrees_56 : decode cX7_agrees 56 = .ok (.ireturn, 1) := by decide +kernel
theorem dX7_agrees_57 : decode cX7_agrees 57 = .ok (.iinc 4 1, 3) := by decide +kernel
theorem dX7_agrees_60 : decode cX7_agrees 60 = .ok (.goto (-57), 3) := by decide +kernel
theorem dX7_agrees_63 : decode cX7_agrees 63 = .ok (.iconst 1, 1) := by decide +kernel
theorem dX7_agrees_64 : decode cX7_agrees 64 = .ok (.ireturn, 1) := by decide +kernel
set_option maxRecDepth 20000 in
theorem ggX7_mostLeft_X8_isIn : GoodIn wsX7_mostLeft wsX8_isIn := goodIn_r _ [8] (by decide +kernel) (by decide +kernel)
set_option maxRecDepth 20000 in
theorem gX7_mostLeft_X8_isIn_n58 : GoodIn wsX7_mostLeft (wsX8_isIn) := ggX7_mostLeft_X8_isIn
set_option maxRecDepth 20000 in
theorem ggX7_mostLeft_X8_missedBy : GoodIn wsX7_mostLeft wsX8_missedBy := goodIn_r _ [10, 11, 3, 4, 5] (by decide +kernel) (by decide +kernel)
set_option maxRecDepth 20000 in
theorem gX7_mostLeft_X8_missedBy_n55 : GoodIn wsX7_mostLeft (wsX8_missedBy) := ggX7_mostLeft_X8_missedBy
theorem dX7_mostLeft_0 : decode cX7_mostLeft 0 = .ok (.iconst 0, 1) := by decide +kernel
theorem dX7_mostLeft_1 : decode cX7_mostLeft 1 = .ok (.istore 4, 2) := by decide +kernel
theorem dX7_mostLeft_3 : decode cX7_mostLeft 3 = .ok (.iload 4, 2) := by decide +kernel
theorem dX7_mostLeft_5 : decode cX7_mostLeft 5 = .ok (.aload_n 0, 1) := by decide +kernel
theorem dX7_mostLeft_6 : decode cX7_mostLeft 6 = .ok (.getfield 21, 3) := by decide +kernel
theorem dX7_mostLeft_9 : decode cX7_mostLeft 9 = .ok (.arraylength, 1) := by decide +kernel
theorem dX7_mostLeft_10 : decode cX7_mostLeft 10 = .ok (.if_icmp .ge 17, 3) := by decide +kernel
theorem dX7_mostLeft_13 : decode cX7_mostLeft 13 = .ok (.aload_n 0, 1) := by decide +kernel
theorem dX7_mostLeft_14 : decode cX7_mostLeft 14 = .ok (.getfield 21, 3) := by decide +kernel
theorem dX7_mostLeft_17 : decode cX7_mostLeft 17 = .ok (.iload 4, 2) := by decide +kernel
theorem dX7_mostLeft_19 : decode cX7_mostLeft 19 = .ok (.iconst 0, 1) := by decide +kernel
theorem dX7_mostLeft_20 : decode cX7_mostLeft 20 = .ok (.iastore, 1) := by decide +kernel
theorem dX7_mostLeft_21 : decode cX7_mostLeft 21 = .ok (.iinc 4 1, 3) := by decide +kernel
theorem dX7_mostLeft_24 : decode cX7_mostLeft 24 = .ok (.goto (-21), 3) := by decide +kernel
theorem dX7_mostLeft_27 : decode cX7_mostLeft 27 = .ok (.iconst 0, 1) := by decide +kernel
theorem dX7_mostLeft_28 : decode cX7_mostLeft 28 = .ok (.istore 4, 2) := by decide +kernel
theorem dX7_mostLeft_30 : decode cX7_mostLeft 30 = .ok (.iconst 0, 1) := by decide +kernel
theorem dX7_mostLeft_31 : decode cX7_mostLeft 31 = .ok (.istore 5, 2) := by decide +kernel
theorem dX7_mostLeft_33 : decode cX7_mostLeft 33 = .ok (.iload 5, 2) := by decide +kernel
theorem dX7_mostLeft_35 : decode cX7_mostLeft 35 = .ok (.bipush 20, 2) := by decide +kernel
theorem dX7_mostLeft_37 : decode cX7_mostLeft 37 = .ok (.if_icmp .gt 52, 3) := by decide +kernel
theorem dX7_mostLeft_40 : decode cX7_mostLeft 40 = .ok (.iload_n 1, 1) := by decide +kernel
theorem dX7_mostLeft_41 : decode cX7_mostLeft 41 = .ok (.iload 5, 2) := by decide +kernel
theorem dX7_mostLeft_43 : decode cX7_mostLeft 43 = .ok (.invokestatic 58, 3) := by decide +kernel
theorem dX7_mostLeft_46 : decode cX7_mostLeft 46 = .ok (.ifCond .eq 37, 3) := by decide +kernel
theorem dX7_mostLeft_49 : decode cX7_mostLeft 49 = .ok (.iload_n 2, 1) := by decide +kernel
theorem dX7_mostLeft_50 : decode cX7_mostLeft 50 = .ok (.iload 5, 2) := by decide +kernel
theorem dX7_mostLeft_52 : decode cX7_mostLeft 52 = .ok (.iload_n 3, 1) := by decide +kernel
theorem dX7_mostLeft_53 : decode cX7_mostLeft 53 = .ok (.invokestatic 55, 3) := by decide +kernel
theorem dX7_mostLeft_56 : decode cX7_mostLeft 56 = .ok (.istore 6, 2) := by decide +kernel
theorem dX7_mostLeft_58 : decode cX7_mostLeft 58 = .ok (.aload_n 0, 1) := by decide +kernel
theorem dX7_mostLeft_59 : decode cX7_mostLeft 59 = .ok (.getfield 21, 3) := by decide +kernel
theorem dX7_mostLeft_62 : decode cX7_mostLeft 62 = .ok (.iload 6, 2) := by decide +kernel
theorem dX7_mostLeft_64 : decode cX7_mostLeft 64 = .ok (.dup2, 1) := by decide +kernel
theorem dX7_mostLeft_65 : decode cX7_mostLeft 65 = .ok (.iaload, 1) := by decide +kernel
theorem dX7_mostLeft_66 : decode cX7_mostLeft 66 = .ok (.iconst 1, 1) := by decide +kernel
theorem dX7_mostLeft_67 : decode cX7_mostLeft 67 = .ok (.iadd, 1) := by decide +kernel
theorem dX7_mostLeft_68 : decode cX7_mostLeft 68 = .ok (.iastore, 1) := by decide +kernel
theorem dX7_mostLeft_69 : decode cX7_mostLeft 69 = .ok (.iload 4, 2) := by decide +kernel
theorem dX7_mostLeft_71 : decode cX7_mostLeft 71 = .ok (.aload_n 0, 1) := by decide +kernel
theorem dX7_mostLeft_72 : decode cX7_mostLeft 72 = .ok (.getfield 21, 3) := by decide +kernel
theorem dX7_mostLeft_75 : decode cX7_mostLeft 75 = .ok (.iload 6, 2) := by decide +kernel
theorem dX7_mostLeft_77 : decode cX7_mostLeft 77 = .ok (.iaload, 1) := by decide +kernel
theorem dX7_mostLeft_78 : decode cX7_mostLeft 78 = .ok (.invokestatic 62, 3) := by decide +kernel
theorem dX7_mostLeft_81 : decode cX7_mostLeft 81 = .ok (.istore 4, 2) := by decide +kernel
theorem dX7_mostLeft_83 : decode cX7_mostLeft 83 = .ok (.iinc 5 1, 3) := by decide +kernel
theorem dX7_mostLeft_86 : decode cX7_mostLeft 86 = .ok (.goto (-53), 3) := by decide +kernel
theorem dX7_mostLeft_89 : decode cX7_mostLeft 89 = .ok (.iload 4, 2) := by decide +kernel
theorem dX7_mostLeft_91 : decode cX7_mostLeft 91 = .ok (.ireturn, 1) := by decide +kernel
