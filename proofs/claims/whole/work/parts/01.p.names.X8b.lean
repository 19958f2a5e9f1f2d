set_option maxRecDepth 20000 in
theorem ggX8_makeUp_X3_isNone : GoodIn wsX8_makeUp wsX3_isNone := goodIn_r _ [10, 11, 76, 77, 78, 79, 80, 81, 82, 83, 84] (by decide +kernel) (by decide +kernel)
set_option maxRecDepth 20000 in
theorem gX8_makeUp_X3_isNone : GoodIn wsX8_makeUp (wsV RX8 147 RX3 yX3_isNone wsX3_isNone) := goodIn_app (goodIn_of _ (by decide +kernel)) ggX8_makeUp_X3_isNone
set_option maxRecDepth 20000 in
theorem ggX8_makeUp_X4_search : GoodIn wsX8_makeUp wsX4_search := goodIn_r _ [16, 17, 18, 19, 20, 21, 22, 23, 24, 25, 9, 26, 11, 27, 28, 29, 30, 31, 32, 33, 34, 35, 36, 37, 38, 39, 40, 41, 42, 43, 44, 45, 46, 47, 48, 49, 50, 51, 52, 53, 54, 55, 56, 57, 58, 15, 59, 73, 74, 75, 76, 77, 78, 79, 80, 81, 82, 83, 84] (by decide +kernel) (by decide +kernel)
set_option maxRecDepth 20000 in
theorem gX8_makeUp_X4_search : GoodIn wsX8_makeUp (wsV RX8 182 RX4 yX4_search wsX4_search) := goodIn_app (goodIn_of _ (by decide +kernel)) ggX8_makeUp_X4_search
theorem dX8_makeUp_0 : decode cX8_makeUp 0 = .ok (.iload_n 1, 1) := by decide +kernel
theorem dX8_makeUp_1 : decode cX8_makeUp 1 = .ok (.ifCond .lt 8, 3) := by decide +kernel
theorem dX8_makeUp_4 : decode cX8_makeUp 4 = .ok (.iload_n 1, 1) := by decide +kernel
theorem dX8_makeUp_5 : decode cX8_makeUp 5 = .ok (.iconst 2, 1) := by decide +kernel
theorem dX8_makeUp_6 : decode cX8_makeUp 6 = .ok (.if_icmp .le 6, 3) := by decide +kernel
theorem dX8_makeUp_9 : decode cX8_makeUp 9 = .ok (.bipush (-102), 2) := by decide +kernel
theorem dX8_makeUp_11 : decode cX8_makeUp 11 = .ok (.ireturn, 1) := by decide +kernel
theorem dX8_makeUp_12 : decode cX8_makeUp 12 = .ok (.aload_n 0, 1) := by decide +kernel
theorem dX8_makeUp_13 : decode cX8_makeUp 13 = .ok (.getfield 19, 3) := by decide +kernel
theorem dX8_makeUp_16 : decode cX8_makeUp 16 = .ok (.invokevirtual 147, 3) := by decide +kernel
theorem dX8_makeUp_19 : decode cX8_makeUp 19 = .ok (.ifCond .eq 6, 3) := by decide +kernel
theorem dX8_makeUp_22 : decode cX8_makeUp 22 = .ok (.bipush (-103), 2) := by decide +kernel
theorem dX8_makeUp_24 : decode cX8_makeUp 24 = .ok (.ireturn, 1) := by decide +kernel
theorem dX8_makeUp_25 : decode cX8_makeUp 25 = .ok (.aload_n 0, 1) := by decide +kernel
theorem dX8_makeUp_26 : decode cX8_makeUp 26 = .ok (.getfield 46, 3) := by decide +kernel
theorem dX8_makeUp_29 : decode cX8_makeUp 29 = .ok (.aload_n 0, 1) := by decide +kernel
theorem dX8_makeUp_30 : decode cX8_makeUp 30 = .ok (.getfield 19, 3) := by decide +kernel
theorem dX8_makeUp_33 : decode cX8_makeUp 33 = .ok (.invokevirtual 182, 3) := by decide +kernel
theorem dX8_makeUp_36 : decode cX8_makeUp 36 = .ok (.iload_n 1, 1) := by decide +kernel
theorem dX8_makeUp_37 : decode cX8_makeUp 37 = .ok (.ifCond .ne 11, 3) := by decide +kernel
theorem dX8_makeUp_40 : decode cX8_makeUp 40 = .ok (.aload_n 0, 1) := by decide +kernel
theorem dX8_makeUp_41 : decode cX8_makeUp 41 = .ok (.getfield 46, 3) := by decide +kernel
theorem dX8_makeUp_44 : decode cX8_makeUp 44 = .ok (.getfield 184, 3) := by decide +kernel
theorem dX8_makeUp_47 : decode cX8_makeUp 47 = .ok (.ireturn, 1) := by decide +kernel
theorem dX8_makeUp_48 : decode cX8_makeUp 48 = .ok (.iload_n 1, 1) := by decide +kernel
theorem dX8_makeUp_49 : decode cX8_makeUp 49 = .ok (.iconst 1, 1) := by decide +kernel
theorem dX8_makeUp_50 : decode cX8_makeUp 50 = .ok (.if_icmp .ne 13, 3) := by decide +kernel
theorem dX8_makeUp_53 : decode cX8_makeUp 53 = .ok (.aload_n 0, 1) := by decide +kernel
theorem dX8_makeUp_54 : decode cX8_makeUp 54 = .ok (.getfield 46, 3) := by decide +kernel
theorem dX8_makeUp_57 : decode cX8_makeUp 57 = .ok (.getfield 185, 3) := by decide +kernel
theorem dX8_makeUp_60 : decode cX8_makeUp 60 = .ok (.goto 10, 3) := by decide +kernel
theorem dX8_makeUp_63 : decode cX8_makeUp 63 = .ok (.aload_n 0, 1) := by decide +kernel
theorem dX8_makeUp_64 : decode cX8_makeUp 64 = .ok (.getfield 46, 3) := by decide +kernel
theorem dX8_makeUp_67 : decode cX8_makeUp 67 = .ok (.getfield 186, 3) := by decide +kernel
theorem dX8_makeUp_70 : decode cX8_makeUp 70 = .ok (.ireturn, 1) := by decide +kernel
set_option maxRecDepth 20000 in
theorem ggX8_odds_X3_has : GoodIn wsX8_odds wsX3_has := goodIn_r _ [8, 9, 102, 103, 104, 105, 106, 107, 108, 109, 110] (by decide +kernel) (by decide +kernel)
set_option maxRecDepth 20000 in
theorem gX8_odds_X3_has : GoodIn wsX8_odds (wsV RX8 100 RX3 yX3_has wsX3_has) := goodIn_app (goodIn_of _ (by decide +kernel)) ggX8_odds_X3_has
set_option maxRecDepth 20000 in
theorem ggX8_odds_X8_isIn : GoodIn wsX8_odds wsX8_isIn := goodIn_r _ [13] (by decide +kernel) (by decide +kernel)
set_option maxRecDepth 20000 in
theorem gX8_odds_X8_isIn : GoodIn wsX8_odds (va_wsS RX8 123 yX8_isIn wsX8_isIn) := goodIn_app (goodIn_of _ (by decide +kernel)) ggX8_odds_X8_isIn
set_option maxRecDepth 20000 in
theorem ggX8_odds_X2_waysTo : GoodIn wsX8_odds wsX2_waysTo := goodIn_r _ [18, 19, 20, 21, 22, 23, 24, 25, 26, 27, 28, 7, 29, 30, 31, 32, 33, 34, 35, 36, 37, 9, 38, 39, 40, 41, 42, 43, 44, 17, 45, 46, 47, 48, 49, 50, 51, 52, 53, 11, 12, 13, 54, 55, 56, 57, 58, 59, 60, 61, 62, 63, 64, 65, 66, 67, 68, 69, 70, 71, 111, 112, 113, 102, 103, 104, 105, 106, 107, 108, 109, 110] (by decide +kernel) (by decide +kernel)
set_option maxRecDepth 20000 in
theorem gX8_odds_X2_waysTo : GoodIn wsX8_odds (wsV RX8 189 RX2 yX2_waysTo wsX2_waysTo) := goodIn_app (goodIn_of _ (by decide +kernel)) ggX8_odds_X2_waysTo
set_option maxRecDepth 20000 in
theorem ggX8_odds_X3_left : GoodIn wsX8_odds wsX3_left := goodIn_r _ [75, 9, 38, 76, 77, 78, 79, 80, 81, 82, 102, 103, 104, 105, 106, 107, 108, 109, 110] (by decide +kernel) (by decide +kernel)
set_option maxRecDepth 20000 in
theorem gX8_odds_X3_left : GoodIn wsX8_odds (wsV RX8 193 RX3 yX3_left wsX3_left) := goodIn_app (goodIn_of _ (by decide +kernel)) ggX8_odds_X3_left
set_option maxRecDepth 20000 in
theorem ggX8_odds_X8_power : GoodIn wsX8_odds wsX8_power := goodIn_r _ [85] (by decide +kernel) (by decide +kernel)
set_option maxRecDepth 20000 in
theorem gX8_odds_X8_power : GoodIn wsX8_odds (va_wsS RX8 196 yX8_power wsX8_power) := goodIn_app (goodIn_of _ (by decide +kernel)) ggX8_odds_X8_power
set_option maxRecDepth 20000 in
theorem ggX8_odds_X8_inLowestTerms : GoodIn wsX8_odds wsX8_inLowestTerms := goodIn_r _ [88] (by decide +kernel) (by decide +kernel)
set_option maxRecDepth 20000 in
theorem gX8_odds_X8_inLowestTerms : GoodIn wsX8_odds (va_wsS RX8 199 yX8_inLowestTerms wsX8_inLowestTerms) := goodIn_app (goodIn_of _ (by decide +kernel)) ggX8_odds_X8_inLowestTerms
theorem dX8_odds_0 : decode cX8_odds 0 = .ok (.aload_n 0, 1) := by decide +kernel
theorem dX8_odds_1 : decode cX8_odds 1 = .ok (.getfield 19, 3) := by decide +kernel
theorem dX8_odds_4 : decode cX8_odds 4 = .ok (.iload_n 1, 1) := by decide +kernel
theorem dX8_odds_5 : decode cX8_odds 5 = .ok (.invokevirtual 100, 3) := by decide +kernel
theorem dX8_odds_8 : decode cX8_odds 8 = .ok (.ifCond .ne 6, 3) := by decide +kernel
theorem dX8_odds_11 : decode cX8_odds 11 = .ok (.bipush (-101), 2) := by decide +kernel
theorem dX8_odds_13 : decode cX8_odds 13 = .ok (.ireturn, 1) := by decide +kernel
theorem dX8_odds_14 : decode cX8_odds 14 = .ok (.iload_n 2, 1) := by decide +kernel
theorem dX8_odds_15 : decode cX8_odds 15 = .ok (.iconst 1, 1) := by decide +kernel
theorem dX8_odds_16 : decode cX8_odds 16 = .ok (.if_icmp .lt 17, 3) := by decide +kernel
theorem dX8_odds_19 : decode cX8_odds 19 = .ok (.iload_n 2, 1) := by decide +kernel
theorem dX8_odds_20 : decode cX8_odds 20 = .ok (.iconst 3, 1) := by decide +kernel
theorem dX8_odds_21 : decode cX8_odds 21 = .ok (.if_icmp .gt 12, 3) := by decide +kernel
theorem dX8_odds_24 : decode cX8_odds 24 = .ok (.iload_n 3, 1) := by decide +kernel
theorem dX8_odds_25 : decode cX8_odds 25 = .ok (.ifCond .lt 8, 3) := by decide +kernel
theorem dX8_odds_28 : decode cX8_odds 28 = .ok (.iload_n 3, 1) := by decide +kernel
theorem dX8_odds_29 : decode cX8_odds 29 = .ok (.iconst 1, 1) := by decide +kernel
theorem dX8_odds_30 : decode cX8_odds 30 = .ok (.if_icmp .le 6, 3) := by decide +kernel
theorem dX8_odds_33 : decode cX8_odds 33 = .ok (.bipush (-102), 2) := by decide +kernel
theorem dX8_odds_35 : decode cX8_odds 35 = .ok (.ireturn, 1) := by decide +kernel
theorem dX8_odds_36 : decode cX8_odds 36 = .ok (.aload_n 0, 1) := by decide +kernel
theorem dX8_odds_37 : decode cX8_odds 37 = .ok (.getfield 19, 3) := by decide +kernel
theorem dX8_odds_40 : decode cX8_odds 40 = .ok (.getfield 120, 3) := by decide +kernel
theorem dX8_odds_43 : decode cX8_odds 43 = .ok (.iload_n 1, 1) := by decide +kernel
theorem dX8_odds_44 : decode cX8_odds 44 = .ok (.invokestatic 123, 3) := by decide +kernel
theorem dX8_odds_47 : decode cX8_odds 47 = .ok (.ifCond .eq 6, 3) := by decide +kernel
theorem dX8_odds_50 : decode cX8_odds 50 = .ok (.bipush (-103), 2) := by decide +kernel
theorem dX8_odds_52 : decode cX8_odds 52 = .ok (.ireturn, 1) := by decide +kernel
theorem dX8_odds_53 : decode cX8_odds 53 = .ok (.aload_n 0, 1) := by decide +kernel
theorem dX8_odds_54 : decode cX8_odds 54 = .ok (.getfield 53, 3) := by decide +kernel
theorem dX8_odds_57 : decode cX8_odds 57 = .ok (.aload_n 0, 1) := by decide +kernel
theorem dX8_odds_58 : decode cX8_odds 58 = .ok (.getfield 19, 3) := by decide +kernel
theorem dX8_odds_61 : decode cX8_odds 61 = .ok (.iload_n 1, 1) := by decide +kernel
theorem dX8_odds_62 : decode cX8_odds 62 = .ok (.iload_n 2, 1) := by decide +kernel
theorem dX8_odds_63 : decode cX8_odds 63 = .ok (.invokevirtual 189, 3) := by decide +kernel
theorem dX8_odds_66 : decode cX8_odds 66 = .ok (.istore 4, 2) := by decide +kernel
theorem dX8_odds_68 : decode cX8_odds 68 = .ok (.aload_n 0, 1) := by decide +kernel
theorem dX8_odds_69 : decode cX8_odds 69 = .ok (.getfield 19, 3) := by decide +kernel
theorem dX8_odds_72 : decode cX8_odds 72 = .ok (.invokevirtual 193, 3) := by decide +kernel
theorem dX8_odds_75 : decode cX8_odds 75 = .ok (.iload_n 2, 1) := by decide +kernel
theorem dX8_odds_76 : decode cX8_odds 76 = .ok (.invokestatic 196, 3) := by decide +kernel
theorem dX8_odds_79 : decode cX8_odds 79 = .ok (.istore 5, 2) := by decide +kernel
theorem dX8_odds_81 : decode cX8_odds 81 = .ok (.iload_n 3, 1) := by decide +kernel
theorem dX8_odds_82 : decode cX8_odds 82 = .ok (.ifCond .ne 8, 3) := by decide +kernel
theorem dX8_odds_85 : decode cX8_odds 85 = .ok (.iload 4, 2) := by decide +kernel
theorem dX8_odds_87 : decode cX8_odds 87 = .ok (.goto 5, 3) := by decide +kernel
theorem dX8_odds_90 : decode cX8_odds 90 = .ok (.iload 5, 2) := by decide +kernel
theorem dX8_odds_92 : decode cX8_odds 92 = .ok (.iload 4, 2) := by decide +kernel
theorem dX8_odds_94 : decode cX8_odds 94 = .ok (.iload 5, 2) := by decide +kernel
theorem dX8_odds_96 : decode cX8_odds 96 = .ok (.invokestatic 199, 3) := by decide +kernel
theorem dX8_odds_99 : decode cX8_odds 99 = .ok (.ireturn, 1) := by decide +kernel
set_option maxRecDepth 20000 in
theorem ggX8_sale_X3_isNone : GoodIn wsX8_sale wsX3_isNone := goodIn_r _ [8, 9, 58, 59, 60, 61, 62, 63, 64, 65, 66] (by decide +kernel) (by decide +kernel)
set_option maxRecDepth 20000 in
theorem gX8_sale_X3_isNone : GoodIn wsX8_sale (wsV RX8 147 RX3 yX3_isNone wsX3_isNone) := goodIn_app (goodIn_of _ (by decide +kernel)) ggX8_sale_X3_isNone
set_option maxRecDepth 20000 in
theorem ggX8_sale_X0_mostOf : GoodIn wsX8_sale wsX0_mostOf := goodIn_r _ [14, 15, 16, 17, 18, 19, 20, 21, 22, 23, 24, 25, 13, 26, 27, 28, 29, 30, 31, 32, 33, 34, 35, 36, 37, 38, 39, 40, 41, 42, 43, 44, 67, 68, 69, 58, 59, 60, 61, 62, 63, 64, 65, 66] (by decide +kernel) (by decide +kernel)
set_option maxRecDepth 20000 in
theorem gX8_sale_X0_mostOf : GoodIn wsX8_sale (wsV RX8 206 RX0 yX0_mostOf wsX0_mostOf) := goodIn_app (goodIn_of _ (by decide +kernel)) ggX8_sale_X0_mostOf
theorem dX8_sale_0 : decode cX8_sale 0 = .ok (.aload_n 0, 1) := by decide +kernel
theorem dX8_sale_1 : decode cX8_sale 1 = .ok (.getfield 19, 3) := by decide +kernel
theorem dX8_sale_4 : decode cX8_sale 4 = .ok (.invokevirtual 147, 3) := by decide +kernel
theorem dX8_sale_7 : decode cX8_sale 7 = .ok (.ifCond .ne 12, 3) := by decide +kernel
theorem dX8_sale_10 : decode cX8_sale 10 = .ok (.aload_n 0, 1) := by decide +kernel
theorem dX8_sale_11 : decode cX8_sale 11 = .ok (.getfield 203, 3) := by decide +kernel
theorem dX8_sale_14 : decode cX8_sale 14 = .ok (.bipush 16, 2) := by decide +kernel
theorem dX8_sale_16 : decode cX8_sale 16 = .ok (.if_icmp .lt 6, 3) := by decide +kernel
theorem dX8_sale_19 : decode cX8_sale 19 = .ok (.bipush (-103), 2) := by decide +kernel
theorem dX8_sale_21 : decode cX8_sale 21 = .ok (.ireturn, 1) := by decide +kernel
theorem dX8_sale_22 : decode cX8_sale 22 = .ok (.aload_n 0, 1) := by decide +kernel
theorem dX8_sale_23 : decode cX8_sale 23 = .ok (.dup, 1) := by decide +kernel
theorem dX8_sale_24 : decode cX8_sale 24 = .ok (.getfield 203, 3) := by decide +kernel
theorem dX8_sale_27 : decode cX8_sale 27 = .ok (.iconst 1, 1) := by decide +kernel
theorem dX8_sale_28 : decode cX8_sale 28 = .ok (.iadd, 1) := by decide +kernel
theorem dX8_sale_29 : decode cX8_sale 29 = .ok (.putfield 203, 3) := by decide +kernel
theorem dX8_sale_32 : decode cX8_sale 32 = .ok (.aload_n 0, 1) := by decide +kernel
theorem dX8_sale_33 : decode cX8_sale 33 = .ok (.getfield 60, 3) := by decide +kernel
theorem dX8_sale_36 : decode cX8_sale 36 = .ok (.aload_n 0, 1) := by decide +kernel
theorem dX8_sale_37 : decode cX8_sale 37 = .ok (.getfield 19, 3) := by decide +kernel
theorem dX8_sale_40 : decode cX8_sale 40 = .ok (.invokevirtual 206, 3) := by decide +kernel
theorem dX8_sale_43 : decode cX8_sale 43 = .ok (.ireturn, 1) := by decide +kernel
set_option maxRecDepth 20000 in
theorem ggX8_see_X3_has : GoodIn wsX8_see wsX3_has := goodIn_r _ [8, 9, 37, 38, 39, 40, 41, 42, 43, 44, 45] (by decide +kernel) (by decide +kernel)
set_option maxRecDepth 20000 in
theorem gX8_see_X3_has : GoodIn wsX8_see (wsV RX8 100 RX3 yX3_has wsX3_has) := goodIn_app (goodIn_of _ (by decide +kernel)) ggX8_see_X3_has
set_option maxRecDepth 20000 in
theorem ggX8_see_X7_add : GoodIn wsX8_see wsX7_add := goodIn_r _ [14, 15, 16, 17, 18, 32, 33, 34, 35, 36] (by decide +kernel) (by decide +kernel)
set_option maxRecDepth 20000 in
theorem gX8_see_X7_add : GoodIn wsX8_see (wsV RX8 210 RX7 yX7_add wsX7_add) := goodIn_app (goodIn_of _ (by decide +kernel)) ggX8_see_X7_add
theorem dX8_see_0 : decode cX8_see 0 = .ok (.aload_n 0, 1) := by decide +kernel
theorem dX8_see_1 : decode cX8_see 1 = .ok (.getfield 19, 3) := by decide +kernel
theorem dX8_see_4 : decode cX8_see 4 = .ok (.iload_n 1, 1) := by decide +kernel
theorem dX8_see_5 : decode cX8_see 5 = .ok (.invokevirtual 100, 3) := by decide +kernel
theorem dX8_see_8 : decode cX8_see 8 = .ok (.ifCond .ne 6, 3) := by decide +kernel
theorem dX8_see_11 : decode cX8_see 11 = .ok (.bipush (-101), 2) := by decide +kernel
theorem dX8_see_13 : decode cX8_see 13 = .ok (.ireturn, 1) := by decide +kernel
theorem dX8_see_14 : decode cX8_see 14 = .ok (.iload_n 2, 1) := by decide +kernel
theorem dX8_see_15 : decode cX8_see 15 = .ok (.ifCond .lt 19, 3) := by decide +kernel
theorem dX8_see_18 : decode cX8_see 18 = .ok (.iload_n 2, 1) := by decide +kernel
theorem dX8_see_19 : decode cX8_see 19 = .ok (.bipush 9, 2) := by decide +kernel
theorem dX8_see_21 : decode cX8_see 21 = .ok (.if_icmp .gt 13, 3) := by decide +kernel
theorem dX8_see_24 : decode cX8_see 24 = .ok (.iload_n 3, 1) := by decide +kernel
theorem dX8_see_25 : decode cX8_see 25 = .ok (.ifCond .lt 9, 3) := by decide +kernel
theorem dX8_see_28 : decode cX8_see 28 = .ok (.iload_n 3, 1) := by decide +kernel
theorem dX8_see_29 : decode cX8_see 29 = .ok (.bipush 20, 2) := by decide +kernel
theorem dX8_see_31 : decode cX8_see 31 = .ok (.if_icmp .le 6, 3) := by decide +kernel
theorem dX8_see_34 : decode cX8_see 34 = .ok (.bipush (-102), 2) := by decide +kernel
theorem dX8_see_36 : decode cX8_see 36 = .ok (.ireturn, 1) := by decide +kernel
theorem dX8_see_37 : decode cX8_see 37 = .ok (.aload_n 0, 1) := by decide +kernel
theorem dX8_see_38 : decode cX8_see 38 = .ok (.getfield 29, 3) := by decide +kernel
theorem dX8_see_41 : decode cX8_see 41 = .ok (.iload_n 1, 1) := by decide +kernel
theorem dX8_see_42 : decode cX8_see 42 = .ok (.iload_n 2, 1) := by decide +kernel
theorem dX8_see_43 : decode cX8_see 43 = .ok (.iload_n 3, 1) := by decide +kernel
theorem dX8_see_44 : decode cX8_see 44 = .ok (.invokevirtual 210, 3) := by decide +kernel
theorem dX8_see_47 : decode cX8_see 47 = .ok (.ifCond .eq 13, 3) := by decide +kernel
theorem dX8_see_50 : decode cX8_see 50 = .ok (.aload_n 0, 1) := by decide +kernel
theorem dX8_see_51 : decode cX8_see 51 = .ok (.getfield 29, 3) := by decide +kernel
theorem dX8_see_54 : decode cX8_see 54 = .ok (.getfield 91, 3) := by decide +kernel
theorem dX8_see_57 : decode cX8_see 57 = .ok (.goto 5, 3) := by decide +kernel
theorem dX8_see_60 : decode cX8_see 60 = .ok (.bipush (-104), 2) := by decide +kernel
theorem dX8_see_62 : decode cX8_see 62 = .ok (.ireturn, 1) := by decide +kernel
theorem dX8_forget_0 : decode cX8_forget 0 = .ok (.aload_n 0, 1) := by decide +kernel
theorem dX8_forget_1 : decode cX8_forget 1 = .ok (.getfield 29, 3) := by decide +kernel
theorem dX8_forget_4 : decode cX8_forget 4 = .ok (.getfield 91, 3) := by decide +kernel
theorem dX8_forget_7 : decode cX8_forget 7 = .ok (.istore_n 1, 1) := by decide +kernel
theorem dX8_forget_8 : decode cX8_forget 8 = .ok (.aload_n 0, 1) := by decide +kernel
theorem dX8_forget_9 : decode cX8_forget 9 = .ok (.getfield 29, 3) := by decide +kernel
theorem dX8_forget_12 : decode cX8_forget 12 = .ok (.iconst 0, 1) := by decide +kernel
theorem dX8_forget_13 : decode cX8_forget 13 = .ok (.putfield 91, 3) := by decide +kernel
theorem dX8_forget_16 : decode cX8_forget 16 = .ok (.iload_n 1, 1) := by decide +kernel
theorem dX8_forget_17 : decode cX8_forget 17 = .ok (.ireturn, 1) := by decide +kernel
set_option maxRecDepth 20000 in
theorem ggX8_months_X3_isNone : GoodIn wsX8_months wsX3_isNone := goodIn_r _ [10, 11, 108, 109, 110, 111, 112, 113, 114, 115, 116] (by decide +kernel) (by decide +kernel)
set_option maxRecDepth 20000 in
theorem gX8_months_X3_isNone : GoodIn wsX8_months (wsV RX8 147 RX3 yX3_isNone wsX3_isNone) := goodIn_app (goodIn_of _ (by decide +kernel)) ggX8_months_X3_isNone
set_option maxRecDepth 20000 in
theorem ggX8_months_X1_goThrough : GoodIn wsX8_months wsX1_goThrough := goodIn_r _ [16, 17, 18, 19, 20, 21, 22, 23, 24, 25, 26, 27, 9, 28, 29, 30, 31, 32, 33, 34, 35, 36, 11, 37, 38, 39, 40, 41, 42, 43, 15, 44, 45, 46, 47, 48, 49, 50, 51, 52, 53, 54, 55, 56, 57, 58, 59, 60, 61, 62, 63, 64, 65, 66, 67, 68, 69, 70, 71, 72, 73, 74, 75, 76, 77, 78, 79, 80, 81, 82, 83, 84, 85, 86, 87, 88, 89, 90, 104, 105, 106, 107, 108, 109, 110, 111, 112, 113, 114, 115, 116] (by decide +kernel) (by decide +kernel)
set_option maxRecDepth 20000 in
theorem gX8_months_X1_goThrough : GoodIn wsX8_months (wsV RX8 213 RX1 yX1_goThrough wsX1_goThrough) := goodIn_app (goodIn_of _ (by decide +kernel)) ggX8_months_X1_goThrough
theorem dX8_months_0 : decode cX8_months 0 = .ok (.iload_n 1, 1) := by decide +kernel
theorem dX8_months_1 : decode cX8_months 1 = .ok (.iconst 1, 1) := by decide +kernel
theorem dX8_months_2 : decode cX8_months 2 = .ok (.if_icmp .lt 22, 3) := by decide +kernel
theorem dX8_months_5 : decode cX8_months 5 = .ok (.iload_n 1, 1) := by decide +kernel
theorem dX8_months_6 : decode cX8_months 6 = .ok (.bipush 60, 2) := by decide +kernel
theorem dX8_months_8 : decode cX8_months 8 = .ok (.if_icmp .gt 16, 3) := by decide +kernel
theorem dX8_months_11 : decode cX8_months 11 = .ok (.iload_n 2, 1) := by decide +kernel
theorem dX8_months_12 : decode cX8_months 12 = .ok (.ifCond .lt 12, 3) := by decide +kernel
theorem dX8_months_15 : decode cX8_months 15 = .ok (.iload_n 3, 1) := by decide +kernel
theorem dX8_months_16 : decode cX8_months 16 = .ok (.ifCond .lt 8, 3) := by decide +kernel
theorem dX8_months_19 : decode cX8_months 19 = .ok (.iload_n 3, 1) := by decide +kernel
theorem dX8_months_20 : decode cX8_months 20 = .ok (.iconst 2, 1) := by decide +kernel
theorem dX8_months_21 : decode cX8_months 21 = .ok (.if_icmp .le 6, 3) := by decide +kernel
theorem dX8_months_24 : decode cX8_months 24 = .ok (.bipush (-102), 2) := by decide +kernel
theorem dX8_months_26 : decode cX8_months 26 = .ok (.ireturn, 1) := by decide +kernel
theorem dX8_months_27 : decode cX8_months 27 = .ok (.aload_n 0, 1) := by decide +kernel
theorem dX8_months_28 : decode cX8_months 28 = .ok (.getfield 19, 3) := by decide +kernel
theorem dX8_months_31 : decode cX8_months 31 = .ok (.invokevirtual 147, 3) := by decide +kernel
theorem dX8_months_34 : decode cX8_months 34 = .ok (.ifCond .eq 6, 3) := by decide +kernel
theorem dX8_months_37 : decode cX8_months 37 = .ok (.bipush (-103), 2) := by decide +kernel
theorem dX8_months_39 : decode cX8_months 39 = .ok (.ireturn, 1) := by decide +kernel
theorem dX8_months_40 : decode cX8_months 40 = .ok (.aload_n 0, 1) := by decide +kernel
theorem dX8_months_41 : decode cX8_months 41 = .ok (.getfield 67, 3) := by decide +kernel
theorem dX8_months_44 : decode cX8_months 44 = .ok (.aload_n 0, 1) := by decide +kernel
theorem dX8_months_45 : decode cX8_months 45 = .ok (.getfield 19, 3) := by decide +kernel
theorem dX8_months_48 : decode cX8_months 48 = .ok (.iload_n 1, 1) := by decide +kernel
theorem dX8_months_49 : decode cX8_months 49 = .ok (.iload_n 2, 1) := by decide +kernel
theorem dX8_months_50 : decode cX8_months 50 = .ok (.invokevirtual 213, 3) := by decide +kernel
theorem dX8_months_53 : decode cX8_months 53 = .ok (.iload_n 3, 1) := by decide +kernel
theorem dX8_months_54 : decode cX8_months 54 = .ok (.ifCond .ne 11, 3) := by decide +kernel
theorem dX8_months_57 : decode cX8_months 57 = .ok (.aload_n 0, 1) := by decide +kernel
theorem dX8_months_58 : decode cX8_months 58 = .ok (.getfield 67, 3) := by decide +kernel
theorem dX8_months_61 : decode cX8_months 61 = .ok (.getfield 217, 3) := by decide +kernel
theorem dX8_months_64 : decode cX8_months 64 = .ok (.ireturn, 1) := by decide +kernel
theorem dX8_months_65 : decode cX8_months 65 = .ok (.iload_n 3, 1) := by decide +kernel
theorem dX8_months_66 : decode cX8_months 66 = .ok (.iconst 1, 1) := by decide +kernel
theorem dX8_months_67 : decode cX8_months 67 = .ok (.if_icmp .ne 13, 3) := by decide +kernel
theorem dX8_months_70 : decode cX8_months 70 = .ok (.aload_n 0, 1) := by decide +kernel
theorem dX8_months_71 : decode cX8_months 71 = .ok (.getfield 67, 3) := by decide +kernel
theorem dX8_months_74 : decode cX8_months 74 = .ok (.getfield 218, 3) := by decide +kernel
theorem dX8_months_77 : decode cX8_months 77 = .ok (.goto 10, 3) := by decide +kernel
theorem dX8_months_80 : decode cX8_months 80 = .ok (.aload_n 0, 1) := by decide +kernel
theorem dX8_months_81 : decode cX8_months 81 = .ok (.getfield 67, 3) := by decide +kernel
theorem dX8_months_84 : decode cX8_months 84 = .ok (.getfield 219, 3) := by decide +kernel
theorem dX8_months_87 : decode cX8_months 87 = .ok (.ireturn, 1) := by decide +kernel
set_option maxRecDepth 20000 in
theorem ggX8_image_X3_isNone : GoodIn wsX8_image wsX3_isNone := goodIn_r _ [11, 12, 52, 53, 54, 55, 56, 57, 58, 59, 60] (by decide +kernel) (by decide +kernel)
set_option maxRecDepth 20000 in
theorem gX8_image_X3_isNone : GoodIn wsX8_image (wsV RX8 147 RX3 yX3_isNone wsX3_isNone) := goodIn_app (goodIn_of _ (by decide +kernel)) ggX8_image_X3_isNone
set_option maxRecDepth 20000 in
theorem ggX8_image_X3_copyFrom : GoodIn wsX8_image wsX3_copyFrom := goodIn_r _ [16, 17, 18, 19, 20, 21, 22, 23, 24, 12, 25, 26, 27, 28, 52, 53, 54, 55, 56, 57, 58, 59, 60] (by decide +kernel) (by decide +kernel)
set_option maxRecDepth 20000 in
theorem gX8_image_X3_copyFrom : GoodIn wsX8_image (wsV RX8 222 RX3 yX3_copyFrom wsX3_copyFrom) := goodIn_app (goodIn_of _ (by decide +kernel)) ggX8_image_X3_copyFrom
set_option maxRecDepth 20000 in
theorem ggX8_image_X7_copyFrom : GoodIn wsX8_image wsX7_copyFrom := goodIn_r _ [33, 34, 35, 19, 20, 21, 36, 37, 38, 61, 62, 63, 64, 65] (by decide +kernel) (by decide +kernel)
set_option maxRecDepth 20000 in
theorem gX8_image_X7_copyFrom : GoodIn wsX8_image (wsV RX8 225 RX7 yX7_copyFrom wsX7_copyFrom) := goodIn_app (goodIn_of _ (by decide +kernel)) ggX8_image_X7_copyFrom
theorem dX8_image_0 : decode cX8_image 0 = .ok (.aload_n 0, 1) := by decide +kernel
theorem dX8_image_1 : decode cX8_image 1 = .ok (.getfield 19, 3) := by decide +kernel
theorem dX8_image_4 : decode cX8_image 4 = .ok (.invokevirtual 147, 3) := by decide +kernel
theorem dX8_image_7 : decode cX8_image 7 = .ok (.ifCond .eq 6, 3) := by decide +kernel
theorem dX8_image_10 : decode cX8_image 10 = .ok (.bipush (-103), 2) := by decide +kernel
theorem dX8_image_12 : decode cX8_image 12 = .ok (.ireturn, 1) := by decide +kernel
theorem dX8_image_13 : decode cX8_image 13 = .ok (.aload_n 0, 1) := by decide +kernel
theorem dX8_image_14 : decode cX8_image 14 = .ok (.getfield 23, 3) := by decide +kernel
theorem dX8_image_17 : decode cX8_image 17 = .ok (.aload_n 0, 1) := by decide +kernel
theorem dX8_image_18 : decode cX8_image 18 = .ok (.getfield 19, 3) := by decide +kernel
theorem dX8_image_21 : decode cX8_image 21 = .ok (.invokevirtual 222, 3) := by decide +kernel
theorem dX8_image_24 : decode cX8_image 24 = .ok (.aload_n 0, 1) := by decide +kernel
theorem dX8_image_25 : decode cX8_image 25 = .ok (.getfield 33, 3) := by decide +kernel
theorem dX8_image_28 : decode cX8_image 28 = .ok (.aload_n 0, 1) := by decide +kernel
theorem dX8_image_29 : decode cX8_image 29 = .ok (.getfield 29, 3) := by decide +kernel
theorem dX8_image_32 : decode cX8_image 32 = .ok (.invokevirtual 225, 3) := by decide +kernel
theorem dX8_image_35 : decode cX8_image 35 = .ok (.aload_n 0, 1) := by decide +kernel
theorem dX8_image_36 : decode cX8_image 36 = .ok (.iconst 1, 1) := by decide +kernel
theorem dX8_image_37 : decode cX8_image 37 = .ok (.putfield 92, 3) := by decide +kernel
theorem dX8_image_40 : decode cX8_image 40 = .ok (.aload_n 0, 1) := by decide +kernel
theorem dX8_image_41 : decode cX8_image 41 = .ok (.getfield 19, 3) := by decide +kernel
theorem dX8_image_44 : decode cX8_image 44 = .ok (.getfield 150, 3) := by decide +kernel
theorem dX8_image_47 : decode cX8_image 47 = .ok (.ireturn, 1) := by decide +kernel
set_option maxRecDepth 20000 in
theorem ggX8_restore_X3_copyFrom : GoodIn wsX8_restore wsX3_copyFrom := goodIn_r _ [11, 12, 13, 14, 15, 16, 17, 18, 19, 20, 21, 22, 23, 24, 48, 49, 50, 51, 52, 53, 54, 55, 56] (by decide +kernel) (by decide +kernel)
set_option maxRecDepth 20000 in
theorem gX8_restore_X3_copyFrom : GoodIn wsX8_restore (wsV RX8 222 RX3 yX3_copyFrom wsX3_copyFrom) := goodIn_app (goodIn_of _ (by decide +kernel)) ggX8_restore_X3_copyFrom
set_option maxRecDepth 20000 in
theorem ggX8_restore_X7_copyFrom : GoodIn wsX8_restore wsX7_copyFrom := goodIn_r _ [29, 30, 31, 14, 15, 16, 32, 33, 34, 57, 58, 59, 60, 61] (by decide +kernel) (by decide +kernel)
set_option maxRecDepth 20000 in
theorem gX8_restore_X7_copyFrom : GoodIn wsX8_restore (wsV RX8 225 RX7 yX7_copyFrom wsX7_copyFrom) := goodIn_app (goodIn_of _ (by decide +kernel)) ggX8_restore_X7_copyFrom
theorem dX8_restore_0 : decode cX8_restore 0 = .ok (.aload_n 0, 1) := by decide +kernel
theorem dX8_restore_1 : decode cX8_restore 1 = .ok (.getfield 92, 3) := by decide +kernel
theorem dX8_restore_4 : decode cX8_restore 4 = .ok (.ifCond .ne 6, 3) := by decide +kernel
theorem dX8_restore_7 : decode cX8_restore 7 = .ok (.bipush (-103), 2) := by decide +kernel
theorem dX8_restore_9 : decode cX8_restore 9 = .ok (.ireturn, 1) := by decide +kernel
theorem dX8_restore_10 : decode cX8_restore 10 = .ok (.aload_n 0, 1) := by decide +kernel
theorem dX8_restore_11 : decode cX8_restore 11 = .ok (.getfield 19, 3) := by decide +kernel
theorem dX8_restore_14 : decode cX8_restore 14 = .ok (.aload_n 0, 1) := by decide +kernel
theorem dX8_restore_15 : decode cX8_restore 15 = .ok (.getfield 23, 3) := by decide +kernel
theorem dX8_restore_18 : decode cX8_restore 18 = .ok (.invokevirtual 222, 3) := by decide +kernel
theorem dX8_restore_21 : decode cX8_restore 21 = .ok (.aload_n 0, 1) := by decide +kernel
theorem dX8_restore_22 : decode cX8_restore 22 = .ok (.getfield 29, 3) := by decide +kernel
theorem dX8_restore_25 : decode cX8_restore 25 = .ok (.aload_n 0, 1) := by decide +kernel
theorem dX8_restore_26 : decode cX8_restore 26 = .ok (.getfield 33, 3) := by decide +kernel
theorem dX8_restore_29 : decode cX8_restore 29 = .ok (.invokevirtual 225, 3) := by decide +kernel
theorem dX8_restore_32 : decode cX8_restore 32 = .ok (.aload_n 0, 1) := by decide +kernel
theorem dX8_restore_33 : decode cX8_restore 33 = .ok (.getfield 19, 3) := by decide +kernel
theorem dX8_restore_36 : decode cX8_restore 36 = .ok (.getfield 150, 3) := by decide +kernel
theorem dX8_restore_39 : decode cX8_restore 39 = .ok (.ireturn, 1) := by decide +kernel
set_option maxRecDepth 20000 in
theorem ggX8_count_J6_bitCount_0f7a4 : GoodIn wsX8_count wsJ6_bitCount_0f7a4 := goodIn_r _ [16, 17, 18, 19] (by decide +kernel) (by decide +kernel)
set_option maxRecDepth 20000 in
theorem gX8_count_J6_bitCount_0f7a4 : GoodIn wsX8_count (va_wsS RX8 228 yJ6_bitCount_0f7a4 wsJ6_bitCount_0f7a4) := goodIn_app (goodIn_of _ (by decide +kernel)) ggX8_count_J6_bitCount_0f7a4
set_option maxRecDepth 20000 in
theorem ggX8_count_X3_worthOf : GoodIn wsX8_count wsX3_worthOf := goodIn_r _ [24, 25, 26, 27, 28, 29, 68, 69, 70, 71, 72, 73, 74, 75, 76] (by decide +kernel) (by decide +kernel)
set_option maxRecDepth 20000 in
theorem gX8_count_X3_worthOf : GoodIn wsX8_count (wsV RX8 233 RX3 yX3_worthOf wsX3_worthOf) := goodIn_app (goodIn_of _ (by decide +kernel)) ggX8_count_X3_worthOf
set_option maxRecDepth 20000 in
theorem ggX8_count_X3_missedOf : GoodIn wsX8_count wsX3_missedOf := goodIn_r _ [33, 25, 27, 28, 29, 34, 35, 36, 23, 37, 38, 39, 40, 41, 42, 43, 44, 45, 46, 47, 48, 49, 50, 51, 52, 53, 54, 68, 69, 70, 71, 72, 73, 74, 75, 76] (by decide +kernel) (by decide +kernel)
set_option maxRecDepth 20000 in
theorem gX8_count_X3_missedOf : GoodIn wsX8_count (wsV RX8 236 RX3 yX3_missedOf wsX3_missedOf) := goodIn_app (goodIn_of _ (by decide +kernel)) ggX8_count_X3_missedOf
theorem dX8_count_0 : decode cX8_count 0 = .ok (.iload_n 1, 1) := by decide +kernel
theorem dX8_count_1 : decode cX8_count 1 = .ok (.tableswitch 182 0 11 #[63, 71, 82, 90, 98, 115, 133, 141, 156, 164, 172, 177], 63) := by decide +kernel
theorem dX8_count_64 : decode cX8_count 64 = .ok (.aload_n 0, 1) := by decide +kernel
theorem dX8_count_65 : decode cX8_count 65 = .ok (.getfield 19, 3) := by decide +kernel
theorem dX8_count_68 : decode cX8_count 68 = .ok (.getfield 99, 3) := by decide +kernel
theorem dX8_count_71 : decode cX8_count 71 = .ok (.ireturn, 1) := by decide +kernel
theorem dX8_count_72 : decode cX8_count 72 = .ok (.aload_n 0, 1) := by decide +kernel
theorem dX8_count_73 : decode cX8_count 73 = .ok (.getfield 19, 3) := by decide +kernel
theorem dX8_count_76 : decode cX8_count 76 = .ok (.getfield 120, 3) := by decide +kernel
theorem dX8_count_79 : decode cX8_count 79 = .ok (.invokestatic 228, 3) := by decide +kernel
theorem dX8_count_82 : decode cX8_count 82 = .ok (.ireturn, 1) := by decide +kernel
theorem dX8_count_83 : decode cX8_count 83 = .ok (.aload_n 0, 1) := by decide +kernel
theorem dX8_count_84 : decode cX8_count 84 = .ok (.getfield 19, 3) := by decide +kernel
theorem dX8_count_87 : decode cX8_count 87 = .ok (.getfield 164, 3) := by decide +kernel
theorem dX8_count_90 : decode cX8_count 90 = .ok (.ireturn, 1) := by decide +kernel
theorem dX8_count_91 : decode cX8_count 91 = .ok (.aload_n 0, 1) := by decide +kernel
theorem dX8_count_92 : decode cX8_count 92 = .ok (.getfield 19, 3) := by decide +kernel
theorem dX8_count_95 : decode cX8_count 95 = .ok (.getfield 150, 3) := by decide +kernel
theorem dX8_count_98 : decode cX8_count 98 = .ok (.ireturn, 1) := by decide +kernel
theorem dX8_count_99 : decode cX8_count 99 = .ok (.aload_n 0, 1) := by decide +kernel
theorem dX8_count_100 : decode cX8_count 100 = .ok (.getfield 19, 3) := by decide +kernel
theorem dX8_count_103 : decode cX8_count 103 = .ok (.aload_n 0, 1) := by decide +kernel
theorem dX8_count_104 : decode cX8_count 104 = .ok (.getfield 19, 3) := by decide +kernel
theorem dX8_count_107 : decode cX8_count 107 = .ok (.getfield 120, 3) := by decide +kernel
theorem dX8_count_110 : decode cX8_count 110 = .ok (.iconst (-1), 1) := by decide +kernel
theorem dX8_count_111 : decode cX8_count 111 = .ok (.ixor, 1) := by decide +kernel
theorem dX8_count_112 : decode cX8_count 112 = .ok (.invokevirtual 233, 3) := by decide +kernel
theorem dX8_count_115 : decode cX8_count 115 = .ok (.ireturn, 1) := by decide +kernel
theorem dX8_count_116 : decode cX8_count 116 = .ok (.aload_n 0, 1) := by decide +kernel
theorem dX8_count_117 : decode cX8_count 117 = .ok (.getfield 19, 3) := by decide +kernel
theorem dX8_count_120 : decode cX8_count 120 = .ok (.aload_n 0, 1) := by decide +kernel
theorem dX8_count_121 : decode cX8_count 121 = .ok (.getfield 19, 3) := by decide +kernel
theorem dX8_count_124 : decode cX8_count 124 = .ok (.getfield 120, 3) := by decide +kernel
theorem dX8_count_127 : decode cX8_count 127 = .ok (.iconst (-1), 1) := by decide +kernel
theorem dX8_count_128 : decode cX8_count 128 = .ok (.ixor, 1) := by decide +kernel
theorem dX8_count_129 : decode cX8_count 129 = .ok (.iconst 0, 1) := by decide +kernel
theorem dX8_count_130 : decode cX8_count 130 = .ok (.invokevirtual 236, 3) := by decide +kernel
theorem dX8_count_133 : decode cX8_count 133 = .ok (.ireturn, 1) := by decide +kernel
theorem dX8_count_134 : decode cX8_count 134 = .ok (.aload_n 0, 1) := by decide +kernel
theorem dX8_count_135 : decode cX8_count 135 = .ok (.getfield 19, 3) := by decide +kernel
theorem dX8_count_138 : decode cX8_count 138 = .ok (.getfield 140, 3) := by decide +kernel
theorem dX8_count_141 : decode cX8_count 141 = .ok (.ireturn, 1) := by decide +kernel
theorem dX8_count_142 : decode cX8_count 142 = .ok (.aload_n 0, 1) := by decide +kernel
theorem dX8_count_143 : decode cX8_count 143 = .ok (.getfield 19, 3) := by decide +kernel
theorem dX8_count_146 : decode cX8_count 146 = .ok (.aload_n 0, 1) := by decide +kernel
theorem dX8_count_147 : decode cX8_count 147 = .ok (.getfield 19, 3) := by decide +kernel
theorem dX8_count_150 : decode cX8_count 150 = .ok (.getfield 120, 3) := by decide +kernel
theorem dX8_count_153 : decode cX8_count 153 = .ok (.invokevirtual 233, 3) := by decide +kernel
theorem dX8_count_156 : decode cX8_count 156 = .ok (.ireturn, 1) := by decide +kernel
theorem dX8_count_157 : decode cX8_count 157 = .ok (.aload_n 0, 1) := by decide +kernel
theorem dX8_count_158 : decode cX8_count 158 = .ok (.getfield 29, 3) := by decide +kernel
theorem dX8_count_161 : decode cX8_count 161 = .ok (.getfield 91, 3) := by decide +kernel
theorem dX8_count_164 : decode cX8_count 164 = .ok (.ireturn, 1) := by decide +kernel
theorem dX8_count_165 : decode cX8_count 165 = .ok (.aload_n 0, 1) := by decide +kernel
theorem dX8_count_166 : decode cX8_count 166 = .ok (.getfield 10, 3) := by decide +kernel
theorem dX8_count_169 : decode cX8_count 169 = .ok (.getfield 75, 3) := by decide +kernel
theorem dX8_count_172 : decode cX8_count 172 = .ok (.ireturn, 1) := by decide +kernel
theorem dX8_count_173 : decode cX8_count 173 = .ok (.aload_n 0, 1) := by decide +kernel
theorem dX8_count_174 : decode cX8_count 174 = .ok (.getfield 96, 3) := by decide +kernel
theorem dX8_count_177 : decode cX8_count 177 = .ok (.ireturn, 1) := by decide +kernel
theorem dX8_count_178 : decode cX8_count 178 = .ok (.aload_n 0, 1) := by decide +kernel
theorem dX8_count_179 : decode cX8_count 179 = .ok (.getfield 203, 3) := by decide +kernel
theorem dX8_count_182 : decode cX8_count 182 = .ok (.ireturn, 1) := by decide +kernel
theorem dX8_count_183 : decode cX8_count 183 = .ok (.bipush (-102), 2) := by decide +kernel
theorem dX8_count_185 : decode cX8_count 185 = .ok (.ireturn, 1) := by decide +kernel
set_option maxRecDepth 20000 in
theorem ggX8_digest_X8_thing : GoodIn wsX8_digest wsX8_thing := goodIn_r _ [19, 2, 20, 21, 22, 23, 24, 25, 26, 27, 28, 29, 30, 31, 32, 33, 34, 35, 36, 37, 38, 39, 40, 41, 42, 43, 44, 45, 46, 47, 48, 49, 18, 50, 51, 52, 53, 54, 55, 56, 57, 58, 59, 60, 61, 62, 63, 64, 65, 66, 67, 68, 69, 70, 71, 72, 73, 74, 75, 76, 77, 78, 79, 80, 81, 82, 83, 84, 85, 86, 87, 88, 89, 90, 91, 92, 93, 94, 95, 96, 97, 98, 99, 100, 101, 102, 103, 104, 105, 106, 107, 108, 109, 110, 111, 112, 113, 114, 115, 116, 117, 118, 119, 223, 224, 225, 226, 227, 228, 229, 230, 231, 232, 233, 234, 235, 236, 237, 238, 239, 240, 241, 242, 243, 244, 256, 257, 258, 259, 260, 261, 262, 263] (by decide +kernel) (by decide +kernel)
set_option maxRecDepth 20000 in
theorem gX8_digest_X8_thing : GoodIn wsX8_digest (wsV RX8 243 RX8 yX8_thing wsX8_thing) := goodIn_app (goodIn_of _ (by decide +kernel)) ggX8_digest_X8_thing
set_option maxRecDepth 20000 in
theorem ggX8_digest_X3_isNone : GoodIn wsX8_digest wsX3_isNone := goodIn_r _ [123, 32, 236, 237, 238, 239, 240, 241, 242, 243, 244] (by decide +kernel) (by decide +kernel)
set_option maxRecDepth 20000 in
theorem gX8_digest_X3_isNone : GoodIn wsX8_digest (wsV RX8 147 RX3 yX3_isNone wsX3_isNone) := goodIn_app (goodIn_of _ (by decide +kernel)) ggX8_digest_X3_isNone
set_option maxRecDepth 20000 in
theorem ggX8_digest_X6_search : GoodIn wsX8_digest wsX6_search := goodIn_r _ [128, 129, 130, 46, 47, 48, 131, 132, 133, 134, 135, 136, 30, 137, 37, 138, 139, 140, 141, 142, 38, 44, 32, 43, 143, 144, 145, 146, 147, 148, 127, 149, 150, 151, 152, 153, 154, 155, 156, 157, 158, 159, 160, 161, 162, 163, 164, 49, 18, 50, 165, 34, 35, 36, 39, 40, 41, 42, 45, 51, 52, 53, 54, 55, 166, 167, 168, 169, 170, 171, 172, 173, 174, 175, 176, 177, 178, 179, 180, 181, 182, 183, 184, 245, 246, 247, 248, 249, 250, 236, 237, 238, 239, 240, 241, 242, 243, 244] (by decide +kernel) (by decide +kernel)
set_option maxRecDepth 20000 in
theorem gX8_digest_X6_search : GoodIn wsX8_digest (wsV RX8 170 RX6 yX6_search wsX6_search) := goodIn_app (goodIn_of _ (by decide +kernel)) ggX8_digest_X6_search
set_option maxRecDepth 20000 in
theorem ggX8_digest_X4_search : GoodIn wsX8_digest wsX4_search := goodIn_r _ [189, 190, 191, 192, 193, 194, 195, 196, 197, 198, 30, 199, 32, 142, 49, 18, 50, 200, 162, 163, 164, 165, 34, 35, 36, 37, 38, 39, 40, 41, 42, 43, 44, 45, 46, 47, 48, 51, 52, 53, 54, 55, 201, 202, 203, 188, 204, 251, 252, 253, 236, 237, 238, 239, 240, 241, 242, 243, 244] (by decide +kernel) (by decide +kernel)
set_option maxRecDepth 20000 in
theorem gX8_digest_X4_search : GoodIn wsX8_digest (wsV RX8 182 RX4 yX4_search wsX4_search) := goodIn_app (goodIn_of _ (by decide +kernel)) ggX8_digest_X4_search
set_option maxRecDepth 20000 in
theorem ggX8_digest_X3_wouldTake : GoodIn wsX8_digest wsX3_wouldTake := goodIn_r _ [179, 143, 32, 43, 49, 18, 50, 165, 34, 35, 30, 36, 37, 38, 39, 40, 41, 42, 44, 45, 46, 47, 48, 51, 52, 53, 54, 55, 236, 237, 238, 239, 240, 241, 242, 243, 244] (by decide +kernel) (by decide +kernel)
set_option maxRecDepth 20000 in
theorem gX8_digest_X3_wouldTake : GoodIn wsX8_digest (wsV RX8 156 RX3 yX3_wouldTake wsX3_wouldTake) := goodIn_app (goodIn_of _ (by decide +kernel)) ggX8_digest_X3_wouldTake
set_option maxRecDepth 20000 in
theorem ggX8_digest_X6_touchedOn : GoodIn wsX8_digest wsX6_touchedOn := goodIn_r _ [209, 131, 159, 245, 246, 247, 248, 249, 250] (by decide +kernel) (by decide +kernel)
set_option maxRecDepth 20000 in
theorem gX8_digest_X6_touchedOn : GoodIn wsX8_digest (wsV RX8 179 RX6 yX6_touchedOn wsX6_touchedOn) := goodIn_app (goodIn_of _ (by decide +kernel)) ggX8_digest_X6_touchedOn
set_option maxRecDepth 20000 in
theorem ggX8_digest_X8_count : GoodIn wsX8_digest wsX8_count := goodIn_r _ [213, 2, 3, 24, 214, 215, 216, 25, 217, 12, 13, 218, 219, 220, 103, 104, 105, 106, 107, 108, 221, 197, 198, 30, 199, 32, 142, 49, 18, 50, 222, 162, 163, 164, 165, 34, 35, 36, 37, 38, 39, 40, 41, 42, 43, 44, 45, 46, 47, 48, 51, 52, 53, 54, 55, 223, 224, 225, 226, 227, 228, 229, 230, 231, 232, 233, 234, 235, 236, 237, 238, 239, 240, 241, 242, 243, 244, 256, 257, 258, 259, 260, 254, 255] (by decide +kernel) (by decide +kernel)
set_option maxRecDepth 20000 in
theorem gX8_digest_X8_count : GoodIn wsX8_digest (wsV RX8 249 RX8 yX8_count wsX8_count) := goodIn_app (goodIn_of _ (by decide +kernel)) ggX8_digest_X8_count
theorem dX8_digest_0 : decode cX8_digest 0 = .ok (.ldc2_w 239, 3) := by decide +kernel
theorem dX8_digest_3 : decode cX8_digest 3 = .ok (.lstore_n 1, 1) := by decide +kernel
theorem dX8_digest_4 : decode cX8_digest 4 = .ok (.iconst 0, 1) := by decide +kernel
theorem dX8_digest_5 : decode cX8_digest 5 = .ok (.istore_n 3, 1) := by decide +kernel
theorem dX8_digest_6 : decode cX8_digest 6 = .ok (.iload_n 3, 1) := by decide +kernel
theorem dX8_digest_7 : decode cX8_digest 7 = .ok (.aload_n 0, 1) := by decide +kernel
theorem dX8_digest_8 : decode cX8_digest 8 = .ok (.getfield 19, 3) := by decide +kernel
theorem dX8_digest_11 : decode cX8_digest 11 = .ok (.getfield 99, 3) := by decide +kernel
theorem dX8_digest_14 : decode cX8_digest 14 = .ok (.if_icmp .ge 40, 3) := by decide +kernel
theorem dX8_digest_17 : decode cX8_digest 17 = .ok (.iconst 0, 1) := by decide +kernel
theorem dX8_digest_18 : decode cX8_digest 18 = .ok (.istore 4, 2) := by decide +kernel
theorem dX8_digest_20 : decode cX8_digest 20 = .ok (.iload 4, 2) := by decide +kernel
theorem dX8_digest_22 : decode cX8_digest 22 = .ok (.bipush 7, 2) := by decide +kernel
theorem dX8_digest_24 : decode cX8_digest 24 = .ok (.if_icmp .gt 24, 3) := by decide +kernel
theorem dX8_digest_27 : decode cX8_digest 27 = .ok (.ldc2_w 241, 3) := by decide +kernel
theorem dX8_digest_30 : decode cX8_digest 30 = .ok (.lload_n 1, 1) := by decide +kernel
theorem dX8_digest_31 : decode cX8_digest 31 = .ok (.lmul, 1) := by decide +kernel
theorem dX8_digest_32 : decode cX8_digest 32 = .ok (.aload_n 0, 1) := by decide +kernel
theorem dX8_digest_33 : decode cX8_digest 33 = .ok (.iload_n 3, 1) := by decide +kernel
theorem dX8_digest_34 : decode cX8_digest 34 = .ok (.iload 4, 2) := by decide +kernel
theorem dX8_digest_36 : decode cX8_digest 36 = .ok (.invokevirtual 243, 3) := by decide +kernel
theorem dX8_digest_39 : decode cX8_digest 39 = .ok (.i2l, 1) := by decide +kernel
theorem dX8_digest_40 : decode cX8_digest 40 = .ok (.ladd, 1) := by decide +kernel
theorem dX8_digest_41 : decode cX8_digest 41 = .ok (.lstore_n 1, 1) := by decide +kernel
theorem dX8_digest_42 : decode cX8_digest 42 = .ok (.iinc 4 1, 3) := by decide +kernel
theorem dX8_digest_45 : decode cX8_digest 45 = .ok (.goto (-25), 3) := by decide +kernel
theorem dX8_digest_48 : decode cX8_digest 48 = .ok (.iinc 3 1, 3) := by decide +kernel
theorem dX8_digest_51 : decode cX8_digest 51 = .ok (.goto (-45), 3) := by decide +kernel
theorem dX8_digest_54 : decode cX8_digest 54 = .ok (.aload_n 0, 1) := by decide +kernel
theorem dX8_digest_55 : decode cX8_digest 55 = .ok (.getfield 19, 3) := by decide +kernel
theorem dX8_digest_58 : decode cX8_digest 58 = .ok (.invokevirtual 147, 3) := by decide +kernel
theorem dX8_digest_61 : decode cX8_digest 61 = .ok (.ifCond .ne 165, 3) := by decide +kernel
theorem dX8_digest_64 : decode cX8_digest 64 = .ok (.aload_n 0, 1) := by decide +kernel
theorem dX8_digest_65 : decode cX8_digest 65 = .ok (.getfield 39, 3) := by decide +kernel
theorem dX8_digest_68 : decode cX8_digest 68 = .ok (.aload_n 0, 1) := by decide +kernel
theorem dX8_digest_69 : decode cX8_digest 69 = .ok (.getfield 19, 3) := by decide +kernel
theorem dX8_digest_72 : decode cX8_digest 72 = .ok (.iconst 2, 1) := by decide +kernel
theorem dX8_digest_73 : decode cX8_digest 73 = .ok (.invokevirtual 170, 3) := by decide +kernel
theorem dX8_digest_76 : decode cX8_digest 76 = .ok (.aload_n 0, 1) := by decide +kernel
theorem dX8_digest_77 : decode cX8_digest 77 = .ok (.getfield 46, 3) := by decide +kernel
theorem dX8_digest_80 : decode cX8_digest 80 = .ok (.aload_n 0, 1) := by decide +kernel
theorem dX8_digest_81 : decode cX8_digest 81 = .ok (.getfield 19, 3) := by decide +kernel
theorem dX8_digest_84 : decode cX8_digest 84 = .ok (.invokevirtual 182, 3) := by decide +kernel
theorem dX8_digest_87 : decode cX8_digest 87 = .ok (.ldc2_w 241, 3) := by decide +kernel
theorem dX8_digest_90 : decode cX8_digest 90 = .ok (.lload_n 1, 1) := by decide +kernel
theorem dX8_digest_91 : decode cX8_digest 91 = .ok (.lmul, 1) := by decide +kernel
theorem dX8_digest_92 : decode cX8_digest 92 = .ok (.aload_n 0, 1) := by decide +kernel
theorem dX8_digest_93 : decode cX8_digest 93 = .ok (.getfield 19, 3) := by decide +kernel
theorem dX8_digest_96 : decode cX8_digest 96 = .ok (.iconst 0, 1) := by decide +kernel
theorem dX8_digest_97 : decode cX8_digest 97 = .ok (.invokevirtual 156, 3) := by decide +kernel
theorem dX8_digest_100 : decode cX8_digest 100 = .ok (.i2l, 1) := by decide +kernel
theorem dX8_digest_101 : decode cX8_digest 101 = .ok (.ladd, 1) := by decide +kernel
theorem dX8_digest_102 : decode cX8_digest 102 = .ok (.lstore_n 1, 1) := by decide +kernel
theorem dX8_digest_103 : decode cX8_digest 103 = .ok (.ldc2_w 241, 3) := by decide +kernel
theorem dX8_digest_106 : decode cX8_digest 106 = .ok (.lload_n 1, 1) := by decide +kernel
theorem dX8_digest_107 : decode cX8_digest 107 = .ok (.lmul, 1) := by decide +kernel
theorem dX8_digest_108 : decode cX8_digest 108 = .ok (.aload_n 0, 1) := by decide +kernel
theorem dX8_digest_109 : decode cX8_digest 109 = .ok (.getfield 19, 3) := by decide +kernel
theorem dX8_digest_112 : decode cX8_digest 112 = .ok (.iconst 5, 1) := by decide +kernel
theorem dX8_digest_113 : decode cX8_digest 113 = .ok (.invokevirtual 156, 3) := by decide +kernel
theorem dX8_digest_116 : decode cX8_digest 116 = .ok (.i2l, 1) := by decide +kernel
theorem dX8_digest_117 : decode cX8_digest 117 = .ok (.ladd, 1) := by decide +kernel
theorem dX8_digest_118 : decode cX8_digest 118 = .ok (.lstore_n 1, 1) := by decide +kernel
theorem dX8_digest_119 : decode cX8_digest 119 = .ok (.ldc2_w 241, 3) := by decide +kernel
theorem dX8_digest_122 : decode cX8_digest 122 = .ok (.lload_n 1, 1) := by decide +kernel
theorem dX8_digest_123 : decode cX8_digest 123 = .ok (.lmul, 1) := by decide +kernel
theorem dX8_digest_124 : decode cX8_digest 124 = .ok (.aload_n 0, 1) := by decide +kernel
theorem dX8_digest_125 : decode cX8_digest 125 = .ok (.getfield 39, 3) := by decide +kernel
theorem dX8_digest_128 : decode cX8_digest 128 = .ok (.getfield 174, 3) := by decide +kernel
theorem dX8_digest_131 : decode cX8_digest 131 = .ok (.i2l, 1) := by decide +kernel
theorem dX8_digest_132 : decode cX8_digest 132 = .ok (.ladd, 1) := by decide +kernel
theorem dX8_digest_133 : decode cX8_digest 133 = .ok (.lstore_n 1, 1) := by decide +kernel
theorem dX8_digest_134 : decode cX8_digest 134 = .ok (.ldc2_w 241, 3) := by decide +kernel
theorem dX8_digest_137 : decode cX8_digest 137 = .ok (.lload_n 1, 1) := by decide +kernel
theorem dX8_digest_138 : decode cX8_digest 138 = .ok (.lmul, 1) := by decide +kernel
theorem dX8_digest_139 : decode cX8_digest 139 = .ok (.aload_n 0, 1) := by decide +kernel
theorem dX8_digest_140 : decode cX8_digest 140 = .ok (.getfield 39, 3) := by decide +kernel
theorem dX8_digest_143 : decode cX8_digest 143 = .ok (.getfield 176, 3) := by decide +kernel
theorem dX8_digest_146 : decode cX8_digest 146 = .ok (.i2l, 1) := by decide +kernel
theorem dX8_digest_147 : decode cX8_digest 147 = .ok (.ladd, 1) := by decide +kernel
theorem dX8_digest_148 : decode cX8_digest 148 = .ok (.lstore_n 1, 1) := by decide +kernel
theorem dX8_digest_149 : decode cX8_digest 149 = .ok (.ldc2_w 241, 3) := by decide +kernel
theorem dX8_digest_152 : decode cX8_digest 152 = .ok (.lload_n 1, 1) := by decide +kernel
theorem dX8_digest_153 : decode cX8_digest 153 = .ok (.lmul, 1) := by decide +kernel
theorem dX8_digest_154 : decode cX8_digest 154 = .ok (.aload_n 0, 1) := by decide +kernel
theorem dX8_digest_155 : decode cX8_digest 155 = .ok (.getfield 39, 3) := by decide +kernel
theorem dX8_digest_158 : decode cX8_digest 158 = .ok (.iconst 0, 1) := by decide +kernel
theorem dX8_digest_159 : decode cX8_digest 159 = .ok (.invokevirtual 179, 3) := by decide +kernel
theorem dX8_digest_162 : decode cX8_digest 162 = .ok (.i2l, 1) := by decide +kernel
theorem dX8_digest_163 : decode cX8_digest 163 = .ok (.ladd, 1) := by decide +kernel
theorem dX8_digest_164 : decode cX8_digest 164 = .ok (.lstore_n 1, 1) := by decide +kernel
theorem dX8_digest_165 : decode cX8_digest 165 = .ok (.ldc2_w 241, 3) := by decide +kernel
theorem dX8_digest_168 : decode cX8_digest 168 = .ok (.lload_n 1, 1) := by decide +kernel
theorem dX8_digest_169 : decode cX8_digest 169 = .ok (.lmul, 1) := by decide +kernel
theorem dX8_digest_170 : decode cX8_digest 170 = .ok (.aload_n 0, 1) := by decide +kernel
theorem dX8_digest_171 : decode cX8_digest 171 = .ok (.getfield 39, 3) := by decide +kernel
theorem dX8_digest_174 : decode cX8_digest 174 = .ok (.iconst 1, 1) := by decide +kernel
theorem dX8_digest_175 : decode cX8_digest 175 = .ok (.invokevirtual 179, 3) := by decide +kernel
theorem dX8_digest_178 : decode cX8_digest 178 = .ok (.i2l, 1) := by decide +kernel
theorem dX8_digest_179 : decode cX8_digest 179 = .ok (.ladd, 1) := by decide +kernel
theorem dX8_digest_180 : decode cX8_digest 180 = .ok (.lstore_n 1, 1) := by decide +kernel
theorem dX8_digest_181 : decode cX8_digest 181 = .ok (.ldc2_w 241, 3) := by decide +kernel
theorem dX8_digest_184 : decode cX8_digest 184 = .ok (.lload_n 1, 1) := by decide +kernel
theorem dX8_digest_185 : decode cX8_digest 185 = .ok (.lmul, 1) := by decide +kernel
theorem dX8_digest_186 : decode cX8_digest 186 = .ok (.aload_n 0, 1) := by decide +kernel
theorem dX8_digest_187 : decode cX8_digest 187 = .ok (.getfield 46, 3) := by decide +kernel
theorem dX8_digest_190 : decode cX8_digest 190 = .ok (.getfield 184, 3) := by decide +kernel
theorem dX8_digest_193 : decode cX8_digest 193 = .ok (.i2l, 1) := by decide +kernel
theorem dX8_digest_194 : decode cX8_digest 194 = .ok (.ladd, 1) := by decide +kernel
theorem dX8_digest_195 : decode cX8_digest 195 = .ok (.lstore_n 1, 1) := by decide +kernel
theorem dX8_digest_196 : decode cX8_digest 196 = .ok (.ldc2_w 241, 3) := by decide +kernel
theorem dX8_digest_199 : decode cX8_digest 199 = .ok (.lload_n 1, 1) := by decide +kernel
theorem dX8_digest_200 : decode cX8_digest 200 = .ok (.lmul, 1) := by decide +kernel
theorem dX8_digest_201 : decode cX8_digest 201 = .ok (.aload_n 0, 1) := by decide +kernel
theorem dX8_digest_202 : decode cX8_digest 202 = .ok (.getfield 46, 3) := by decide +kernel
theorem dX8_digest_205 : decode cX8_digest 205 = .ok (.getfield 185, 3) := by decide +kernel
theorem dX8_digest_208 : decode cX8_digest 208 = .ok (.i2l, 1) := by decide +kernel
theorem dX8_digest_209 : decode cX8_digest 209 = .ok (.ladd, 1) := by decide +kernel
theorem dX8_digest_210 : decode cX8_digest 210 = .ok (.lstore_n 1, 1) := by decide +kernel
theorem dX8_digest_211 : decode cX8_digest 211 = .ok (.ldc2_w 241, 3) := by decide +kernel
theorem dX8_digest_214 : decode cX8_digest 214 = .ok (.lload_n 1, 1) := by decide +kernel
theorem dX8_digest_215 : decode cX8_digest 215 = .ok (.lmul, 1) := by decide +kernel
theorem dX8_digest_216 : decode cX8_digest 216 = .ok (.aload_n 0, 1) := by decide +kernel
theorem dX8_digest_217 : decode cX8_digest 217 = .ok (.getfield 46, 3) := by decide +kernel
theorem dX8_digest_220 : decode cX8_digest 220 = .ok (.getfield 186, 3) := by decide +kernel
theorem dX8_digest_223 : decode cX8_digest 223 = .ok (.i2l, 1) := by decide +kernel
theorem dX8_digest_224 : decode cX8_digest 224 = .ok (.ladd, 1) := by decide +kernel
theorem dX8_digest_225 : decode cX8_digest 225 = .ok (.lstore_n 1, 1) := by decide +kernel
theorem dX8_digest_226 : decode cX8_digest 226 = .ok (.iconst 0, 1) := by decide +kernel
theorem dX8_digest_227 : decode cX8_digest 227 = .ok (.istore_n 3, 1) := by decide +kernel
theorem dX8_digest_228 : decode cX8_digest 228 = .ok (.iload_n 3, 1) := by decide +kernel
theorem dX8_digest_229 : decode cX8_digest 229 = .ok (.aload_n 0, 1) := by decide +kernel
theorem dX8_digest_230 : decode cX8_digest 230 = .ok (.getfield 10, 3) := by decide +kernel
theorem dX8_digest_233 : decode cX8_digest 233 = .ok (.getfield 75, 3) := by decide +kernel
theorem dX8_digest_236 : decode cX8_digest 236 = .ok (.if_icmp .ge 26, 3) := by decide +kernel
theorem dX8_digest_239 : decode cX8_digest 239 = .ok (.ldc2_w 241, 3) := by decide +kernel
theorem dX8_digest_242 : decode cX8_digest 242 = .ok (.lload_n 1, 1) := by decide +kernel
theorem dX8_digest_243 : decode cX8_digest 243 = .ok (.lmul, 1) := by decide +kernel
theorem dX8_digest_244 : decode cX8_digest 244 = .ok (.aload_n 0, 1) := by decide +kernel
theorem dX8_digest_245 : decode cX8_digest 245 = .ok (.getfield 10, 3) := by decide +kernel
theorem dX8_digest_248 : decode cX8_digest 248 = .ok (.getfield 246, 3) := by decide +kernel
theorem dX8_digest_251 : decode cX8_digest 251 = .ok (.iload_n 3, 1) := by decide +kernel
theorem dX8_digest_252 : decode cX8_digest 252 = .ok (.iaload, 1) := by decide +kernel
theorem dX8_digest_253 : decode cX8_digest 253 = .ok (.i2l, 1) := by decide +kernel
theorem dX8_digest_254 : decode cX8_digest 254 = .ok (.ladd, 1) := by decide +kernel
theorem dX8_digest_255 : decode cX8_digest 255 = .ok (.lstore_n 1, 1) := by decide +kernel
theorem dX8_digest_256 : decode cX8_digest 256 = .ok (.iinc 3 1, 3) := by decide +kernel
theorem dX8_digest_259 : decode cX8_digest 259 = .ok (.goto (-31), 3) := by decide +kernel
theorem dX8_digest_262 : decode cX8_digest 262 = .ok (.iconst 0, 1) := by decide +kernel
theorem dX8_digest_263 : decode cX8_digest 263 = .ok (.istore_n 3, 1) := by decide +kernel
theorem dX8_digest_264 : decode cX8_digest 264 = .ok (.iload_n 3, 1) := by decide +kernel
theorem dX8_digest_265 : decode cX8_digest 265 = .ok (.bipush 11, 2) := by decide +kernel
theorem dX8_digest_267 : decode cX8_digest 267 = .ok (.if_icmp .gt 22, 3) := by decide +kernel
theorem dX8_digest_270 : decode cX8_digest 270 = .ok (.ldc2_w 241, 3) := by decide +kernel
theorem dX8_digest_273 : decode cX8_digest 273 = .ok (.lload_n 1, 1) := by decide +kernel
theorem dX8_digest_274 : decode cX8_digest 274 = .ok (.lmul, 1) := by decide +kernel
theorem dX8_digest_275 : decode cX8_digest 275 = .ok (.aload_n 0, 1) := by decide +kernel
theorem dX8_digest_276 : decode cX8_digest 276 = .ok (.iload_n 3, 1) := by decide +kernel
theorem dX8_digest_277 : decode cX8_digest 277 = .ok (.invokevirtual 249, 3) := by decide +kernel
theorem dX8_digest_280 : decode cX8_digest 280 = .ok (.i2l, 1) := by decide +kernel
theorem dX8_digest_281 : decode cX8_digest 281 = .ok (.ladd, 1) := by decide +kernel
theorem dX8_digest_282 : decode cX8_digest 282 = .ok (.lstore_n 1, 1) := by decide +kernel
theorem dX8_digest_283 : decode cX8_digest 283 = .ok (.iinc 3 1, 3) := by decide +kernel
theorem dX8_digest_286 : decode cX8_digest 286 = .ok (.goto (-22), 3) := by decide +kernel
theorem dX8_digest_289 : decode cX8_digest 289 = .ok (.lload_n 1, 1) := by decide +kernel
theorem dX8_digest_290 : decode cX8_digest 290 = .ok (.lreturn, 1) := by decide +kernel
