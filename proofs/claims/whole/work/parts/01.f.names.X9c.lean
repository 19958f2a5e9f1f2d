set_option maxRecDepth 20000 in
theorem ggX9_sale_X9_lacks : GoodIn wsX9_sale wsX9_lacks := goodIn_r _ [7, 8, 19, 20, 21, 22, 23, 24, 25, 26, 27, 28, 29, 30, 31, 32, 33, 34, 35, 36, 37, 38, 39, 40, 41, 42, 43, 44, 45, 46, 47, 48, 49, 50, 51, 52] (by decide +kernel) (by decide +kernel)
set_option maxRecDepth 20000 in
theorem gX9_sale_X9_lacks : GoodIn wsX9_sale (wsV RX9 158 RX9 yX9_lacks wsX9_lacks) := goodIn_app (goodIn_of _ (by decide +kernel)) ggX9_sale_X9_lacks
set_option maxRecDepth 20000 in
theorem ggX9_sale_X9_laySale : GoodIn wsX9_sale wsX9_laySale := goodIn_r _ [12, 2, 8, 13, 14, 15, 16, 6, 17, 18, 19, 20, 21, 22, 23, 24, 25, 26, 27, 28, 29, 30, 31, 32, 33, 34, 35, 36, 37, 38, 39, 40, 41, 42, 43, 44, 45, 46, 47, 48, 49, 50, 51, 52] (by decide +kernel) (by decide +kernel)
set_option maxRecDepth 20000 in
theorem gX9_sale_X9_laySale : GoodIn wsX9_sale (wsV RX9 217 RX9 yX9_laySale wsX9_laySale) := goodIn_app (goodIn_of _ (by decide +kernel)) ggX9_sale_X9_laySale
theorem dX9_sale_0 : decode cX9_sale 0 = .ok (.aload_n 0, 1) := by decide +kernel
theorem dX9_sale_1 : decode cX9_sale 1 = .ok (.invokevirtual 158, 3) := by decide +kernel
theorem dX9_sale_4 : decode cX9_sale 4 = .ok (.ifCond .ne 12, 3) := by decide +kernel
theorem dX9_sale_7 : decode cX9_sale 7 = .ok (.aload_n 0, 1) := by decide +kernel
theorem dX9_sale_8 : decode cX9_sale 8 = .ok (.getfield 220, 3) := by decide +kernel
theorem dX9_sale_11 : decode cX9_sale 11 = .ok (.bipush 16, 2) := by decide +kernel
theorem dX9_sale_13 : decode cX9_sale 13 = .ok (.if_icmp .ne 6, 3) := by decide +kernel
theorem dX9_sale_16 : decode cX9_sale 16 = .ok (.bipush (-103), 2) := by decide +kernel
theorem dX9_sale_18 : decode cX9_sale 18 = .ok (.ireturn, 1) := by decide +kernel
theorem dX9_sale_19 : decode cX9_sale 19 = .ok (.aload_n 0, 1) := by decide +kernel
theorem dX9_sale_20 : decode cX9_sale 20 = .ok (.dup, 1) := by decide +kernel
theorem dX9_sale_21 : decode cX9_sale 21 = .ok (.getfield 220, 3) := by decide +kernel
theorem dX9_sale_24 : decode cX9_sale 24 = .ok (.iconst 1, 1) := by decide +kernel
theorem dX9_sale_25 : decode cX9_sale 25 = .ok (.iadd, 1) := by decide +kernel
theorem dX9_sale_26 : decode cX9_sale 26 = .ok (.putfield 220, 3) := by decide +kernel
theorem dX9_sale_29 : decode cX9_sale 29 = .ok (.aload_n 0, 1) := by decide +kernel
theorem dX9_sale_30 : decode cX9_sale 30 = .ok (.invokevirtual 217, 3) := by decide +kernel
theorem dX9_sale_33 : decode cX9_sale 33 = .ok (.aload_n 0, 1) := by decide +kernel
theorem dX9_sale_34 : decode cX9_sale 34 = .ok (.getfield 37, 3) := by decide +kernel
theorem dX9_sale_37 : decode cX9_sale 37 = .ok (.iconst 0, 1) := by decide +kernel
theorem dX9_sale_38 : decode cX9_sale 38 = .ok (.iaload, 1) := by decide +kernel
theorem dX9_sale_39 : decode cX9_sale 39 = .ok (.ireturn, 1) := by decide +kernel
set_option maxRecDepth 20000 in
theorem ggX9_see_X9_isThing : GoodIn wsX9_see wsX9_isThing := goodIn_r _ [9, 10, 11, 12, 8, 13, 14, 15, 16, 17, 18, 19, 20, 21, 22, 23, 24, 25, 26, 27, 28, 29, 30, 31, 32, 33, 34, 35, 36, 37, 38, 39, 40, 41, 42, 43, 44, 45, 46, 47] (by decide +kernel) (by decide +kernel)
set_option maxRecDepth 20000 in
theorem gX9_see_X9_isThing : GoodIn wsX9_see (wsV RX9 142 RX9 yX9_isThing wsX9_isThing) := goodIn_app (goodIn_of _ (by decide +kernel)) ggX9_see_X9_isThing
set_option maxRecDepth 20000 in
theorem ggX9_see_X9_in : GoodIn wsX9_see wsX9_in := goodIn_r _ [13] (by decide +kernel) (by decide +kernel)
set_option maxRecDepth 20000 in
theorem gX9_see_X9_in : GoodIn wsX9_see (va_wsS RX9 67 yX9_in wsX9_in) := goodIn_app (goodIn_of _ (by decide +kernel)) ggX9_see_X9_in
theorem dX9_see_0 : decode cX9_see 0 = .ok (.aload_n 0, 1) := by decide +kernel
theorem dX9_see_1 : decode cX9_see 1 = .ok (.iload_n 1, 1) := by decide +kernel
theorem dX9_see_2 : decode cX9_see 2 = .ok (.invokevirtual 142, 3) := by decide +kernel
theorem dX9_see_5 : decode cX9_see 5 = .ok (.ifCond .ne 6, 3) := by decide +kernel
theorem dX9_see_8 : decode cX9_see 8 = .ok (.bipush (-101), 2) := by decide +kernel
theorem dX9_see_10 : decode cX9_see 10 = .ok (.ireturn, 1) := by decide +kernel
theorem dX9_see_11 : decode cX9_see 11 = .ok (.iload_n 2, 1) := by decide +kernel
theorem dX9_see_12 : decode cX9_see 12 = .ok (.i2l, 1) := by decide +kernel
theorem dX9_see_13 : decode cX9_see 13 = .ok (.lconst 0, 1) := by decide +kernel
theorem dX9_see_14 : decode cX9_see 14 = .ok (.ldc2_w 170, 3) := by decide +kernel
theorem dX9_see_17 : decode cX9_see 17 = .ok (.invokestatic 67, 3) := by decide +kernel
theorem dX9_see_20 : decode cX9_see 20 = .ok (.ifCond .eq 15, 3) := by decide +kernel
theorem dX9_see_23 : decode cX9_see 23 = .ok (.iload_n 3, 1) := by decide +kernel
theorem dX9_see_24 : decode cX9_see 24 = .ok (.i2l, 1) := by decide +kernel
theorem dX9_see_25 : decode cX9_see 25 = .ok (.lconst 0, 1) := by decide +kernel
theorem dX9_see_26 : decode cX9_see 26 = .ok (.ldc2_w 172, 3) := by decide +kernel
theorem dX9_see_29 : decode cX9_see 29 = .ok (.invokestatic 67, 3) := by decide +kernel
theorem dX9_see_32 : decode cX9_see 32 = .ok (.ifCond .ne 6, 3) := by decide +kernel
theorem dX9_see_35 : decode cX9_see 35 = .ok (.bipush (-102), 2) := by decide +kernel
theorem dX9_see_37 : decode cX9_see 37 = .ok (.ireturn, 1) := by decide +kernel
theorem dX9_see_38 : decode cX9_see 38 = .ok (.aload_n 0, 1) := by decide +kernel
theorem dX9_see_39 : decode cX9_see 39 = .ok (.getfield 107, 3) := by decide +kernel
theorem dX9_see_42 : decode cX9_see 42 = .ok (.bipush 6, 2) := by decide +kernel
theorem dX9_see_44 : decode cX9_see 44 = .ok (.if_icmp .ne 6, 3) := by decide +kernel
theorem dX9_see_47 : decode cX9_see 47 = .ok (.bipush (-104), 2) := by decide +kernel
theorem dX9_see_49 : decode cX9_see 49 = .ok (.ireturn, 1) := by decide +kernel
theorem dX9_see_50 : decode cX9_see 50 = .ok (.aload_n 0, 1) := by decide +kernel
theorem dX9_see_51 : decode cX9_see 51 = .ok (.getfield 40, 3) := by decide +kernel
theorem dX9_see_54 : decode cX9_see 54 = .ok (.iconst 3, 1) := by decide +kernel
theorem dX9_see_55 : decode cX9_see 55 = .ok (.aload_n 0, 1) := by decide +kernel
theorem dX9_see_56 : decode cX9_see 56 = .ok (.getfield 107, 3) := by decide +kernel
theorem dX9_see_59 : decode cX9_see 59 = .ok (.imul, 1) := by decide +kernel
theorem dX9_see_60 : decode cX9_see 60 = .ok (.iload_n 1, 1) := by decide +kernel
theorem dX9_see_61 : decode cX9_see 61 = .ok (.iastore, 1) := by decide +kernel
theorem dX9_see_62 : decode cX9_see 62 = .ok (.aload_n 0, 1) := by decide +kernel
theorem dX9_see_63 : decode cX9_see 63 = .ok (.getfield 40, 3) := by decide +kernel
theorem dX9_see_66 : decode cX9_see 66 = .ok (.iconst 3, 1) := by decide +kernel
theorem dX9_see_67 : decode cX9_see 67 = .ok (.aload_n 0, 1) := by decide +kernel
theorem dX9_see_68 : decode cX9_see 68 = .ok (.getfield 107, 3) := by decide +kernel
theorem dX9_see_71 : decode cX9_see 71 = .ok (.imul, 1) := by decide +kernel
theorem dX9_see_72 : decode cX9_see 72 = .ok (.iconst 1, 1) := by decide +kernel
theorem dX9_see_73 : decode cX9_see 73 = .ok (.iadd, 1) := by decide +kernel
theorem dX9_see_74 : decode cX9_see 74 = .ok (.iload_n 2, 1) := by decide +kernel
theorem dX9_see_75 : decode cX9_see 75 = .ok (.iastore, 1) := by decide +kernel
theorem dX9_see_76 : decode cX9_see 76 = .ok (.aload_n 0, 1) := by decide +kernel
theorem dX9_see_77 : decode cX9_see 77 = .ok (.getfield 40, 3) := by decide +kernel
theorem dX9_see_80 : decode cX9_see 80 = .ok (.iconst 3, 1) := by decide +kernel
theorem dX9_see_81 : decode cX9_see 81 = .ok (.aload_n 0, 1) := by decide +kernel
theorem dX9_see_82 : decode cX9_see 82 = .ok (.getfield 107, 3) := by decide +kernel
theorem dX9_see_85 : decode cX9_see 85 = .ok (.imul, 1) := by decide +kernel
theorem dX9_see_86 : decode cX9_see 86 = .ok (.iconst 2, 1) := by decide +kernel
theorem dX9_see_87 : decode cX9_see 87 = .ok (.iadd, 1) := by decide +kernel
theorem dX9_see_88 : decode cX9_see 88 = .ok (.iload_n 3, 1) := by decide +kernel
theorem dX9_see_89 : decode cX9_see 89 = .ok (.iastore, 1) := by decide +kernel
theorem dX9_see_90 : decode cX9_see 90 = .ok (.aload_n 0, 1) := by decide +kernel
theorem dX9_see_91 : decode cX9_see 91 = .ok (.dup, 1) := by decide +kernel
theorem dX9_see_92 : decode cX9_see 92 = .ok (.getfield 107, 3) := by decide +kernel
theorem dX9_see_95 : decode cX9_see 95 = .ok (.iconst 1, 1) := by decide +kernel
theorem dX9_see_96 : decode cX9_see 96 = .ok (.iadd, 1) := by decide +kernel
theorem dX9_see_97 : decode cX9_see 97 = .ok (.putfield 107, 3) := by decide +kernel
theorem dX9_see_100 : decode cX9_see 100 = .ok (.aload_n 0, 1) := by decide +kernel
theorem dX9_see_101 : decode cX9_see 101 = .ok (.getfield 107, 3) := by decide +kernel
theorem dX9_see_104 : decode cX9_see 104 = .ok (.ireturn, 1) := by decide +kernel
theorem dX9_forget_0 : decode cX9_forget 0 = .ok (.aload_n 0, 1) := by decide +kernel
theorem dX9_forget_1 : decode cX9_forget 1 = .ok (.getfield 107, 3) := by decide +kernel
theorem dX9_forget_4 : decode cX9_forget 4 = .ok (.istore_n 1, 1) := by decide +kernel
theorem dX9_forget_5 : decode cX9_forget 5 = .ok (.aload_n 0, 1) := by decide +kernel
theorem dX9_forget_6 : decode cX9_forget 6 = .ok (.iconst 0, 1) := by decide +kernel
theorem dX9_forget_7 : decode cX9_forget 7 = .ok (.putfield 107, 3) := by decide +kernel
theorem dX9_forget_10 : decode cX9_forget 10 = .ok (.iload_n 1, 1) := by decide +kernel
theorem dX9_forget_11 : decode cX9_forget 11 = .ok (.ireturn, 1) := by decide +kernel
set_option maxRecDepth 20000 in
theorem ggX9_missedIf_X9_missedBy : GoodIn wsX9_missedIf wsX9_missedBy := goodIn_r _ [7] (by decide +kernel) (by decide +kernel)
set_option maxRecDepth 20000 in
theorem gX9_missedIf_X9_missedBy : GoodIn wsX9_missedIf (va_wsS RX9 120 yX9_missedBy wsX9_missedBy) := goodIn_app (goodIn_of _ (by decide +kernel)) ggX9_missedIf_X9_missedBy
theorem dX9_missedIf_0 : decode cX9_missedIf 0 = .ok (.aload_n 0, 1) := by decide +kernel
theorem dX9_missedIf_1 : decode cX9_missedIf 1 = .ok (.getfield 25, 3) := by decide +kernel
theorem dX9_missedIf_4 : decode cX9_missedIf 4 = .ok (.iload_n 1, 1) := by decide +kernel
theorem dX9_missedIf_5 : decode cX9_missedIf 5 = .ok (.iaload, 1) := by decide +kernel
theorem dX9_missedIf_6 : decode cX9_missedIf 6 = .ok (.iconst 1, 1) := by decide +kernel
theorem dX9_missedIf_7 : decode cX9_missedIf 7 = .ok (.if_icmp .ne 12, 3) := by decide +kernel
theorem dX9_missedIf_10 : decode cX9_missedIf 10 = .ok (.aload_n 0, 1) := by decide +kernel
theorem dX9_missedIf_11 : decode cX9_missedIf 11 = .ok (.getfield 22, 3) := by decide +kernel
theorem dX9_missedIf_14 : decode cX9_missedIf 14 = .ok (.iload_n 1, 1) := by decide +kernel
theorem dX9_missedIf_15 : decode cX9_missedIf 15 = .ok (.iaload, 1) := by decide +kernel
theorem dX9_missedIf_16 : decode cX9_missedIf 16 = .ok (.goto 11, 3) := by decide +kernel
theorem dX9_missedIf_19 : decode cX9_missedIf 19 = .ok (.aload_n 0, 1) := by decide +kernel
theorem dX9_missedIf_20 : decode cX9_missedIf 20 = .ok (.getfield 22, 3) := by decide +kernel
theorem dX9_missedIf_23 : decode cX9_missedIf 23 = .ok (.iload_n 1, 1) := by decide +kernel
theorem dX9_missedIf_24 : decode cX9_missedIf 24 = .ok (.iaload, 1) := by decide +kernel
theorem dX9_missedIf_25 : decode cX9_missedIf 25 = .ok (.iload_n 3, 1) := by decide +kernel
theorem dX9_missedIf_26 : decode cX9_missedIf 26 = .ok (.iadd, 1) := by decide +kernel
theorem dX9_missedIf_27 : decode cX9_missedIf 27 = .ok (.istore 4, 2) := by decide +kernel
theorem dX9_missedIf_29 : decode cX9_missedIf 29 = .ok (.aload_n 0, 1) := by decide +kernel
theorem dX9_missedIf_30 : decode cX9_missedIf 30 = .ok (.getfield 13, 3) := by decide +kernel
theorem dX9_missedIf_33 : decode cX9_missedIf 33 = .ok (.iload_n 1, 1) := by decide +kernel
theorem dX9_missedIf_34 : decode cX9_missedIf 34 = .ok (.iaload, 1) := by decide +kernel
theorem dX9_missedIf_35 : decode cX9_missedIf 35 = .ok (.iload_n 2, 1) := by decide +kernel
theorem dX9_missedIf_36 : decode cX9_missedIf 36 = .ok (.iload 4, 2) := by decide +kernel
theorem dX9_missedIf_38 : decode cX9_missedIf 38 = .ok (.bipush 20, 2) := by decide +kernel
theorem dX9_missedIf_40 : decode cX9_missedIf 40 = .ok (.if_icmp .le 8, 3) := by decide +kernel
theorem dX9_missedIf_43 : decode cX9_missedIf 43 = .ok (.bipush 20, 2) := by decide +kernel
theorem dX9_missedIf_45 : decode cX9_missedIf 45 = .ok (.goto 5, 3) := by decide +kernel
theorem dX9_missedIf_48 : decode cX9_missedIf 48 = .ok (.iload 4, 2) := by decide +kernel
theorem dX9_missedIf_50 : decode cX9_missedIf 50 = .ok (.invokestatic 120, 3) := by decide +kernel
theorem dX9_missedIf_53 : decode cX9_missedIf 53 = .ok (.ireturn, 1) := by decide +kernel
set_option maxRecDepth 20000 in
theorem ggX9_looksOf_X9_missedIf : GoodIn wsX9_looksOf wsX9_missedIf := goodIn_r _ [7, 8, 9, 10, 11, 12, 6, 13, 14, 15, 16, 17, 18, 19, 20, 21, 22, 23, 24, 25, 26, 27, 28, 29, 30, 31, 32, 33, 34, 35, 36, 37, 38, 39, 40, 41, 42, 43, 44, 45, 46, 47] (by decide +kernel) (by decide +kernel)
set_option maxRecDepth 20000 in
theorem gX9_looksOf_X9_missedIf : GoodIn wsX9_looksOf (wsV RX9 223 RX9 yX9_missedIf wsX9_missedIf) := goodIn_app (goodIn_of _ (by decide +kernel)) ggX9_looksOf_X9_missedIf
theorem dX9_looksOf_0 : decode cX9_looksOf 0 = .ok (.iconst 0, 1) := by decide +kernel
theorem dX9_looksOf_1 : decode cX9_looksOf 1 = .ok (.istore_n 2, 1) := by decide +kernel
theorem dX9_looksOf_2 : decode cX9_looksOf 2 = .ok (.iconst 0, 1) := by decide +kernel
theorem dX9_looksOf_3 : decode cX9_looksOf 3 = .ok (.istore_n 3, 1) := by decide +kernel
theorem dX9_looksOf_4 : decode cX9_looksOf 4 = .ok (.iload_n 3, 1) := by decide +kernel
theorem dX9_looksOf_5 : decode cX9_looksOf 5 = .ok (.bipush 21, 2) := by decide +kernel
theorem dX9_looksOf_7 : decode cX9_looksOf 7 = .ok (.if_icmp .ge 97, 3) := by decide +kernel
theorem dX9_looksOf_10 : decode cX9_looksOf 10 = .ok (.iconst 1, 1) := by decide +kernel
theorem dX9_looksOf_11 : decode cX9_looksOf 11 = .ok (.istore 4, 2) := by decide +kernel
theorem dX9_looksOf_13 : decode cX9_looksOf 13 = .ok (.iconst 0, 1) := by decide +kernel
theorem dX9_looksOf_14 : decode cX9_looksOf 14 = .ok (.istore 5, 2) := by decide +kernel
theorem dX9_looksOf_16 : decode cX9_looksOf 16 = .ok (.iload 5, 2) := by decide +kernel
theorem dX9_looksOf_18 : decode cX9_looksOf 18 = .ok (.iconst 3, 1) := by decide +kernel
theorem dX9_looksOf_19 : decode cX9_looksOf 19 = .ok (.aload_n 0, 1) := by decide +kernel
theorem dX9_looksOf_20 : decode cX9_looksOf 20 = .ok (.getfield 107, 3) := by decide +kernel
theorem dX9_looksOf_23 : decode cX9_looksOf 23 = .ok (.imul, 1) := by decide +kernel
theorem dX9_looksOf_24 : decode cX9_looksOf 24 = .ok (.if_icmp .ge 59, 3) := by decide +kernel
theorem dX9_looksOf_27 : decode cX9_looksOf 27 = .ok (.iload 4, 2) := by decide +kernel
theorem dX9_looksOf_29 : decode cX9_looksOf 29 = .ok (.ifCond .eq 45, 3) := by decide +kernel
theorem dX9_looksOf_32 : decode cX9_looksOf 32 = .ok (.aload_n 0, 1) := by decide +kernel
theorem dX9_looksOf_33 : decode cX9_looksOf 33 = .ok (.getfield 40, 3) := by decide +kernel
theorem dX9_looksOf_36 : decode cX9_looksOf 36 = .ok (.iload 5, 2) := by decide +kernel
theorem dX9_looksOf_38 : decode cX9_looksOf 38 = .ok (.iaload, 1) := by decide +kernel
theorem dX9_looksOf_39 : decode cX9_looksOf 39 = .ok (.iload_n 1, 1) := by decide +kernel
theorem dX9_looksOf_40 : decode cX9_looksOf 40 = .ok (.if_icmp .ne 30, 3) := by decide +kernel
theorem dX9_looksOf_43 : decode cX9_looksOf 43 = .ok (.aload_n 0, 1) := by decide +kernel
theorem dX9_looksOf_44 : decode cX9_looksOf 44 = .ok (.iload_n 1, 1) := by decide +kernel
theorem dX9_looksOf_45 : decode cX9_looksOf 45 = .ok (.iload_n 3, 1) := by decide +kernel
theorem dX9_looksOf_46 : decode cX9_looksOf 46 = .ok (.aload_n 0, 1) := by decide +kernel
theorem dX9_looksOf_47 : decode cX9_looksOf 47 = .ok (.getfield 40, 3) := by decide +kernel
theorem dX9_looksOf_50 : decode cX9_looksOf 50 = .ok (.iload 5, 2) := by decide +kernel
theorem dX9_looksOf_52 : decode cX9_looksOf 52 = .ok (.iconst 1, 1) := by decide +kernel
theorem dX9_looksOf_53 : decode cX9_looksOf 53 = .ok (.iadd, 1) := by decide +kernel
theorem dX9_looksOf_54 : decode cX9_looksOf 54 = .ok (.iaload, 1) := by decide +kernel
theorem dX9_looksOf_55 : decode cX9_looksOf 55 = .ok (.invokevirtual 223, 3) := by decide +kernel
theorem dX9_looksOf_58 : decode cX9_looksOf 58 = .ok (.aload_n 0, 1) := by decide +kernel
theorem dX9_looksOf_59 : decode cX9_looksOf 59 = .ok (.getfield 40, 3) := by decide +kernel
theorem dX9_looksOf_62 : decode cX9_looksOf 62 = .ok (.iload 5, 2) := by decide +kernel
theorem dX9_looksOf_64 : decode cX9_looksOf 64 = .ok (.iconst 2, 1) := by decide +kernel
theorem dX9_looksOf_65 : decode cX9_looksOf 65 = .ok (.iadd, 1) := by decide +kernel
theorem dX9_looksOf_66 : decode cX9_looksOf 66 = .ok (.iaload, 1) := by decide +kernel
theorem dX9_looksOf_67 : decode cX9_looksOf 67 = .ok (.if_icmp .ne 7, 3) := by decide +kernel
theorem dX9_looksOf_70 : decode cX9_looksOf 70 = .ok (.iconst 1, 1) := by decide +kernel
theorem dX9_looksOf_71 : decode cX9_looksOf 71 = .ok (.goto 4, 3) := by decide +kernel
theorem dX9_looksOf_74 : decode cX9_looksOf 74 = .ok (.iconst 0, 1) := by decide +kernel
theorem dX9_looksOf_75 : decode cX9_looksOf 75 = .ok (.istore 4, 2) := by decide +kernel
theorem dX9_looksOf_77 : decode cX9_looksOf 77 = .ok (.iinc 5 3, 3) := by decide +kernel
theorem dX9_looksOf_80 : decode cX9_looksOf 80 = .ok (.goto (-64), 3) := by decide +kernel
theorem dX9_looksOf_83 : decode cX9_looksOf 83 = .ok (.iload_n 2, 1) := by decide +kernel
theorem dX9_looksOf_84 : decode cX9_looksOf 84 = .ok (.iload 4, 2) := by decide +kernel
theorem dX9_looksOf_86 : decode cX9_looksOf 86 = .ok (.ifCond .eq 9, 3) := by decide +kernel
theorem dX9_looksOf_89 : decode cX9_looksOf 89 = .ok (.iconst 1, 1) := by decide +kernel
theorem dX9_looksOf_90 : decode cX9_looksOf 90 = .ok (.iload_n 3, 1) := by decide +kernel
theorem dX9_looksOf_91 : decode cX9_looksOf 91 = .ok (.ishl, 1) := by decide +kernel
theorem dX9_looksOf_92 : decode cX9_looksOf 92 = .ok (.goto 4, 3) := by decide +kernel
theorem dX9_looksOf_95 : decode cX9_looksOf 95 = .ok (.iconst 0, 1) := by decide +kernel
theorem dX9_looksOf_96 : decode cX9_looksOf 96 = .ok (.ior, 1) := by decide +kernel
theorem dX9_looksOf_97 : decode cX9_looksOf 97 = .ok (.istore_n 2, 1) := by decide +kernel
theorem dX9_looksOf_98 : decode cX9_looksOf 98 = .ok (.iinc 3 1, 3) := by decide +kernel
theorem dX9_looksOf_101 : decode cX9_looksOf 101 = .ok (.goto (-97), 3) := by decide +kernel
theorem dX9_looksOf_104 : decode cX9_looksOf 104 = .ok (.iload_n 2, 1) := by decide +kernel
theorem dX9_looksOf_105 : decode cX9_looksOf 105 = .ok (.ireturn, 1) := by decide +kernel
set_option maxRecDepth 20000 in
theorem ggX9_watchOf_X9_looksOf : GoodIn wsX9_watchOf wsX9_looksOf := goodIn_r _ [5, 6, 7, 8, 9, 10, 4, 11, 12, 13, 14, 15, 16, 17, 18, 19, 20, 21, 22, 23, 24, 25, 26, 27, 28, 29, 30, 31, 32, 33, 34, 35, 36, 37, 38, 39, 40, 41, 42, 43, 44, 45, 46, 47, 48, 49, 50, 51] (by decide +kernel) (by decide +kernel)
set_option maxRecDepth 20000 in
theorem gX9_watchOf_X9_looksOf : GoodIn wsX9_watchOf (wsV RX9 133 RX9 yX9_looksOf wsX9_looksOf) := goodIn_app (goodIn_of _ (by decide +kernel)) ggX9_watchOf_X9_looksOf
set_option maxRecDepth 20000 in
theorem ggX9_watchOf_X9_missedIf : GoodIn wsX9_watchOf wsX9_missedIf := goodIn_r _ [11, 12, 13, 14, 15, 16, 4, 17, 18, 19, 20, 21, 22, 23, 24, 25, 26, 27, 28, 29, 30, 31, 32, 33, 34, 35, 36, 37, 38, 39, 40, 41, 42, 43, 44, 45, 46, 47, 48, 49, 50, 51] (by decide +kernel) (by decide +kernel)
set_option maxRecDepth 20000 in
theorem gX9_watchOf_X9_missedIf : GoodIn wsX9_watchOf (wsV RX9 223 RX9 yX9_missedIf wsX9_missedIf) := goodIn_app (goodIn_of _ (by decide +kernel)) ggX9_watchOf_X9_missedIf
theorem dX9_watchOf_0 : decode cX9_watchOf 0 = .ok (.aload_n 0, 1) := by decide +kernel
theorem dX9_watchOf_1 : decode cX9_watchOf 1 = .ok (.iload_n 1, 1) := by decide +kernel
theorem dX9_watchOf_2 : decode cX9_watchOf 2 = .ok (.invokevirtual 133, 3) := by decide +kernel
theorem dX9_watchOf_5 : decode cX9_watchOf 5 = .ok (.istore_n 2, 1) := by decide +kernel
theorem dX9_watchOf_6 : decode cX9_watchOf 6 = .ok (.iconst (-1), 1) := by decide +kernel
theorem dX9_watchOf_7 : decode cX9_watchOf 7 = .ok (.istore_n 3, 1) := by decide +kernel
theorem dX9_watchOf_8 : decode cX9_watchOf 8 = .ok (.bipush 22, 2) := by decide +kernel
theorem dX9_watchOf_10 : decode cX9_watchOf 10 = .ok (.istore 4, 2) := by decide +kernel
theorem dX9_watchOf_12 : decode cX9_watchOf 12 = .ok (.iconst 0, 1) := by decide +kernel
theorem dX9_watchOf_13 : decode cX9_watchOf 13 = .ok (.istore 5, 2) := by decide +kernel
theorem dX9_watchOf_15 : decode cX9_watchOf 15 = .ok (.iload 5, 2) := by decide +kernel
theorem dX9_watchOf_17 : decode cX9_watchOf 17 = .ok (.bipush 10, 2) := by decide +kernel
theorem dX9_watchOf_19 : decode cX9_watchOf 19 = .ok (.if_icmp .ge 143, 3) := by decide +kernel
theorem dX9_watchOf_22 : decode cX9_watchOf 22 = .ok (.iload_n 2, 1) := by decide +kernel
theorem dX9_watchOf_23 : decode cX9_watchOf 23 = .ok (.ifCond .eq 139, 3) := by decide +kernel
theorem dX9_watchOf_26 : decode cX9_watchOf 26 = .ok (.iconst 0, 1) := by decide +kernel
theorem dX9_watchOf_27 : decode cX9_watchOf 27 = .ok (.istore 6, 2) := by decide +kernel
theorem dX9_watchOf_29 : decode cX9_watchOf 29 = .ok (.iconst 0, 1) := by decide +kernel
theorem dX9_watchOf_30 : decode cX9_watchOf 30 = .ok (.istore 7, 2) := by decide +kernel
theorem dX9_watchOf_32 : decode cX9_watchOf 32 = .ok (.iload 7, 2) := by decide +kernel
theorem dX9_watchOf_34 : decode cX9_watchOf 34 = .ok (.bipush 21, 2) := by decide +kernel
theorem dX9_watchOf_36 : decode cX9_watchOf 36 = .ok (.if_icmp .ge 90, 3) := by decide +kernel
theorem dX9_watchOf_39 : decode cX9_watchOf 39 = .ok (.iconst 0, 1) := by decide +kernel
theorem dX9_watchOf_40 : decode cX9_watchOf 40 = .ok (.istore 8, 2) := by decide +kernel
theorem dX9_watchOf_42 : decode cX9_watchOf 42 = .ok (.iconst 0, 1) := by decide +kernel
theorem dX9_watchOf_43 : decode cX9_watchOf 43 = .ok (.istore 9, 2) := by decide +kernel
theorem dX9_watchOf_45 : decode cX9_watchOf 45 = .ok (.iload 9, 2) := by decide +kernel
theorem dX9_watchOf_47 : decode cX9_watchOf 47 = .ok (.bipush 21, 2) := by decide +kernel
theorem dX9_watchOf_49 : decode cX9_watchOf 49 = .ok (.if_icmp .ge 45, 3) := by decide +kernel
theorem dX9_watchOf_52 : decode cX9_watchOf 52 = .ok (.iload 8, 2) := by decide +kernel
theorem dX9_watchOf_54 : decode cX9_watchOf 54 = .ok (.aload_n 0, 1) := by decide +kernel
theorem dX9_watchOf_55 : decode cX9_watchOf 55 = .ok (.iload_n 1, 1) := by decide +kernel
theorem dX9_watchOf_56 : decode cX9_watchOf 56 = .ok (.iload 9, 2) := by decide +kernel
theorem dX9_watchOf_58 : decode cX9_watchOf 58 = .ok (.iload 5, 2) := by decide +kernel
theorem dX9_watchOf_60 : decode cX9_watchOf 60 = .ok (.invokevirtual 223, 3) := by decide +kernel
theorem dX9_watchOf_63 : decode cX9_watchOf 63 = .ok (.aload_n 0, 1) := by decide +kernel
theorem dX9_watchOf_64 : decode cX9_watchOf 64 = .ok (.iload_n 1, 1) := by decide +kernel
theorem dX9_watchOf_65 : decode cX9_watchOf 65 = .ok (.iload 7, 2) := by decide +kernel
theorem dX9_watchOf_67 : decode cX9_watchOf 67 = .ok (.iload 5, 2) := by decide +kernel
theorem dX9_watchOf_69 : decode cX9_watchOf 69 = .ok (.invokevirtual 223, 3) := by decide +kernel
theorem dX9_watchOf_72 : decode cX9_watchOf 72 = .ok (.if_icmp .ne 12, 3) := by decide +kernel
theorem dX9_watchOf_75 : decode cX9_watchOf 75 = .ok (.iload_n 2, 1) := by decide +kernel
theorem dX9_watchOf_76 : decode cX9_watchOf 76 = .ok (.iload 9, 2) := by decide +kernel
theorem dX9_watchOf_78 : decode cX9_watchOf 78 = .ok (.ishr, 1) := by decide +kernel
theorem dX9_watchOf_79 : decode cX9_watchOf 79 = .ok (.iconst 1, 1) := by decide +kernel
theorem dX9_watchOf_80 : decode cX9_watchOf 80 = .ok (.iand, 1) := by decide +kernel
theorem dX9_watchOf_81 : decode cX9_watchOf 81 = .ok (.goto 4, 3) := by decide +kernel
theorem dX9_watchOf_84 : decode cX9_watchOf 84 = .ok (.iconst 0, 1) := by decide +kernel
theorem dX9_watchOf_85 : decode cX9_watchOf 85 = .ok (.iadd, 1) := by decide +kernel
theorem dX9_watchOf_86 : decode cX9_watchOf 86 = .ok (.istore 8, 2) := by decide +kernel
theorem dX9_watchOf_88 : decode cX9_watchOf 88 = .ok (.iinc 9 1, 3) := by decide +kernel
theorem dX9_watchOf_91 : decode cX9_watchOf 91 = .ok (.goto (-46), 3) := by decide +kernel
theorem dX9_watchOf_94 : decode cX9_watchOf 94 = .ok (.iload_n 2, 1) := by decide +kernel
theorem dX9_watchOf_95 : decode cX9_watchOf 95 = .ok (.iload 7, 2) := by decide +kernel
theorem dX9_watchOf_97 : decode cX9_watchOf 97 = .ok (.ishr, 1) := by decide +kernel
theorem dX9_watchOf_98 : decode cX9_watchOf 98 = .ok (.iconst 1, 1) := by decide +kernel
theorem dX9_watchOf_99 : decode cX9_watchOf 99 = .ok (.iand, 1) := by decide +kernel
theorem dX9_watchOf_100 : decode cX9_watchOf 100 = .ok (.iconst 1, 1) := by decide +kernel
theorem dX9_watchOf_101 : decode cX9_watchOf 101 = .ok (.if_icmp .ne 15, 3) := by decide +kernel
theorem dX9_watchOf_104 : decode cX9_watchOf 104 = .ok (.iload 8, 2) := by decide +kernel
theorem dX9_watchOf_106 : decode cX9_watchOf 106 = .ok (.iload 6, 2) := by decide +kernel
theorem dX9_watchOf_108 : decode cX9_watchOf 108 = .ok (.if_icmp .le 8, 3) := by decide +kernel
theorem dX9_watchOf_111 : decode cX9_watchOf 111 = .ok (.iload 8, 2) := by decide +kernel
theorem dX9_watchOf_113 : decode cX9_watchOf 113 = .ok (.goto 5, 3) := by decide +kernel
theorem dX9_watchOf_116 : decode cX9_watchOf 116 = .ok (.iload 6, 2) := by decide +kernel
theorem dX9_watchOf_118 : decode cX9_watchOf 118 = .ok (.istore 6, 2) := by decide +kernel
theorem dX9_watchOf_120 : decode cX9_watchOf 120 = .ok (.iinc 7 1, 3) := by decide +kernel
theorem dX9_watchOf_123 : decode cX9_watchOf 123 = .ok (.goto (-91), 3) := by decide +kernel
theorem dX9_watchOf_126 : decode cX9_watchOf 126 = .ok (.iload 6, 2) := by decide +kernel
theorem dX9_watchOf_128 : decode cX9_watchOf 128 = .ok (.iload 4, 2) := by decide +kernel
theorem dX9_watchOf_130 : decode cX9_watchOf 130 = .ok (.if_icmp .ge 8, 3) := by decide +kernel
theorem dX9_watchOf_133 : decode cX9_watchOf 133 = .ok (.iload 5, 2) := by decide +kernel
theorem dX9_watchOf_135 : decode cX9_watchOf 135 = .ok (.goto 4, 3) := by decide +kernel
theorem dX9_watchOf_138 : decode cX9_watchOf 138 = .ok (.iload_n 3, 1) := by decide +kernel
theorem dX9_watchOf_139 : decode cX9_watchOf 139 = .ok (.istore_n 3, 1) := by decide +kernel
theorem dX9_watchOf_140 : decode cX9_watchOf 140 = .ok (.iload 6, 2) := by decide +kernel
theorem dX9_watchOf_142 : decode cX9_watchOf 142 = .ok (.iload 4, 2) := by decide +kernel
theorem dX9_watchOf_144 : decode cX9_watchOf 144 = .ok (.if_icmp .ge 8, 3) := by decide +kernel
theorem dX9_watchOf_147 : decode cX9_watchOf 147 = .ok (.iload 6, 2) := by decide +kernel
theorem dX9_watchOf_149 : decode cX9_watchOf 149 = .ok (.goto 5, 3) := by decide +kernel
theorem dX9_watchOf_152 : decode cX9_watchOf 152 = .ok (.iload 4, 2) := by decide +kernel
theorem dX9_watchOf_154 : decode cX9_watchOf 154 = .ok (.istore 4, 2) := by decide +kernel
theorem dX9_watchOf_156 : decode cX9_watchOf 156 = .ok (.iinc 5 1, 3) := by decide +kernel
theorem dX9_watchOf_159 : decode cX9_watchOf 159 = .ok (.goto (-144), 3) := by decide +kernel
theorem dX9_watchOf_162 : decode cX9_watchOf 162 = .ok (.iload_n 3, 1) := by decide +kernel
theorem dX9_watchOf_163 : decode cX9_watchOf 163 = .ok (.ireturn, 1) := by decide +kernel
theorem dX9_draw_0 : decode cX9_draw 0 = .ok (.aload_n 0, 1) := by decide +kernel
theorem dX9_draw_1 : decode cX9_draw 1 = .ok (.ldc2_w 226, 3) := by decide +kernel
theorem dX9_draw_4 : decode cX9_draw 4 = .ok (.aload_n 0, 1) := by decide +kernel
theorem dX9_draw_5 : decode cX9_draw 5 = .ok (.getfield 228, 3) := by decide +kernel
theorem dX9_draw_8 : decode cX9_draw 8 = .ok (.i2l, 1) := by decide +kernel
theorem dX9_draw_9 : decode cX9_draw 9 = .ok (.lmul, 1) := by decide +kernel
theorem dX9_draw_10 : decode cX9_draw 10 = .ok (.ldc2_w 231, 3) := by decide +kernel
theorem dX9_draw_13 : decode cX9_draw 13 = .ok (.ladd, 1) := by decide +kernel
theorem dX9_draw_14 : decode cX9_draw 14 = .ok (.ldc2_w 233, 3) := by decide +kernel
theorem dX9_draw_17 : decode cX9_draw 17 = .ok (.land, 1) := by decide +kernel
theorem dX9_draw_18 : decode cX9_draw 18 = .ok (.l2i, 1) := by decide +kernel
theorem dX9_draw_19 : decode cX9_draw 19 = .ok (.putfield 228, 3) := by decide +kernel
theorem dX9_draw_22 : decode cX9_draw 22 = .ok (.aload_n 0, 1) := by decide +kernel
theorem dX9_draw_23 : decode cX9_draw 23 = .ok (.getfield 228, 3) := by decide +kernel
theorem dX9_draw_26 : decode cX9_draw 26 = .ok (.ldc 235, 2) := by decide +kernel
theorem dX9_draw_28 : decode cX9_draw 28 = .ok (.idiv, 1) := by decide +kernel
theorem dX9_draw_29 : decode cX9_draw 29 = .ok (.iload_n 1, 1) := by decide +kernel
theorem dX9_draw_30 : decode cX9_draw 30 = .ok (.irem, 1) := by decide +kernel
theorem dX9_draw_31 : decode cX9_draw 31 = .ok (.ireturn, 1) := by decide +kernel
set_option maxRecDepth 20000 in
theorem ggX9_months_X9_in : GoodIn wsX9_months wsX9_in := goodIn_r _ [11] (by decide +kernel) (by decide +kernel)
set_option maxRecDepth 20000 in
theorem gX9_months_X9_in : GoodIn wsX9_months (va_wsS RX9 67 yX9_in wsX9_in) := goodIn_app (goodIn_of _ (by decide +kernel)) ggX9_months_X9_in
set_option maxRecDepth 20000 in
theorem ggX9_months_X9_lacks : GoodIn wsX9_months wsX9_lacks := goodIn_r _ [15, 4, 62, 63, 64, 65, 66, 67, 68, 69, 70, 71, 72, 73, 74, 75, 76, 77, 78, 79, 80, 81, 82, 83, 84, 85, 86, 87, 88, 89, 90, 91, 92, 93, 94, 95] (by decide +kernel) (by decide +kernel)
set_option maxRecDepth 20000 in
theorem gX9_months_X9_lacks : GoodIn wsX9_months (wsV RX9 158 RX9 yX9_lacks wsX9_lacks) := goodIn_app (goodIn_of _ (by decide +kernel)) ggX9_months_X9_lacks
set_option maxRecDepth 20000 in
theorem ggX9_months_X9_begin : GoodIn wsX9_months wsX9_begin := goodIn_r _ [19, 20, 21, 22, 23, 24, 5, 25, 7, 26, 27, 10, 28, 62, 63, 64, 65, 66, 67, 68, 69, 70, 71, 72, 73, 74, 75, 76, 77, 78, 79, 80, 81, 82, 83, 84, 85, 86, 87, 88, 89, 90, 91, 92, 93, 94, 95] (by decide +kernel) (by decide +kernel)
set_option maxRecDepth 20000 in
theorem gX9_months_X9_begin : GoodIn wsX9_months (wsV RX9 130 RX9 yX9_begin wsX9_begin) := goodIn_app (goodIn_of _ (by decide +kernel)) ggX9_months_X9_begin
set_option maxRecDepth 20000 in
theorem ggX9_months_X9_draw : GoodIn wsX9_months wsX9_draw := goodIn_r _ [32, 33, 3, 34, 35, 36, 62, 63, 64, 65, 66, 67, 68, 69, 70, 71, 72, 73, 74, 75, 76, 77, 78, 79, 80, 81, 82, 83, 84, 85, 86, 87, 88, 89, 90, 91, 92, 93, 94, 95] (by decide +kernel) (by decide +kernel)
set_option maxRecDepth 20000 in
theorem gX9_months_X9_draw : GoodIn wsX9_months (wsV RX9 238 RX9 yX9_draw wsX9_draw) := goodIn_app (goodIn_of _ (by decide +kernel)) ggX9_months_X9_draw
set_option maxRecDepth 20000 in
theorem ggX9_months_X9_touchThen : GoodIn wsX9_months wsX9_touchThen := goodIn_r _ [40, 21, 23, 62, 63, 64, 65, 66, 67, 68, 69, 70, 71, 72, 73, 74, 75, 76, 77, 78, 79, 80, 81, 82, 83, 84, 85, 86, 87, 88, 89, 90, 91, 92, 93, 94, 95] (by decide +kernel) (by decide +kernel)
set_option maxRecDepth 20000 in
theorem gX9_months_X9_touchThen : GoodIn wsX9_months (wsV RX9 151 RX9 yX9_touchThen wsX9_touchThen) := goodIn_app (goodIn_of _ (by decide +kernel)) ggX9_months_X9_touchThen
set_option maxRecDepth 20000 in
theorem ggX9_months_X9_dayThen : GoodIn wsX9_months wsX9_dayThen := goodIn_r _ [44, 4, 23, 5, 62, 63, 64, 65, 66, 67, 68, 69, 70, 71, 72, 73, 74, 75, 76, 77, 78, 79, 80, 81, 82, 83, 84, 85, 86, 87, 88, 89, 90, 91, 92, 93, 94, 95] (by decide +kernel) (by decide +kernel)
set_option maxRecDepth 20000 in
theorem gX9_months_X9_dayThen : GoodIn wsX9_months (wsV RX9 162 RX9 yX9_dayThen wsX9_dayThen) := goodIn_app (goodIn_of _ (by decide +kernel)) ggX9_months_X9_dayThen
set_option maxRecDepth 20000 in
theorem ggX9_months_X9_takeThen : GoodIn wsX9_months wsX9_takeThen := goodIn_r _ [48, 5, 7, 49, 50, 51, 52, 10, 53, 4, 54, 55, 56, 57, 58, 21, 23, 59, 60, 61, 62, 63, 64, 65, 66, 67, 68, 69, 70, 71, 72, 73, 74, 75, 76, 77, 78, 79, 80, 81, 82, 83, 84, 85, 86, 87, 88, 89, 90, 91, 92, 93, 94, 95] (by decide +kernel) (by decide +kernel)
set_option maxRecDepth 20000 in
theorem gX9_months_X9_takeThen : GoodIn wsX9_months (wsV RX9 165 RX9 yX9_takeThen wsX9_takeThen) := goodIn_app (goodIn_of _ (by decide +kernel)) ggX9_months_X9_takeThen
theorem dX9_months_0 : decode cX9_months 0 = .ok (.iload_n 1, 1) := by decide +kernel
theorem dX9_months_1 : decode cX9_months 1 = .ok (.i2l, 1) := by decide +kernel
theorem dX9_months_2 : decode cX9_months 2 = .ok (.lconst 1, 1) := by decide +kernel
theorem dX9_months_3 : decode cX9_months 3 = .ok (.ldc2_w 236, 3) := by decide +kernel
theorem dX9_months_6 : decode cX9_months 6 = .ok (.invokestatic 67, 3) := by decide +kernel
theorem dX9_months_9 : decode cX9_months 9 = .ok (.ifCond .eq 19, 3) := by decide +kernel
theorem dX9_months_12 : decode cX9_months 12 = .ok (.iload_n 2, 1) := by decide +kernel
theorem dX9_months_13 : decode cX9_months 13 = .ok (.ifCond .lt 15, 3) := by decide +kernel
theorem dX9_months_16 : decode cX9_months 16 = .ok (.iload_n 3, 1) := by decide +kernel
theorem dX9_months_17 : decode cX9_months 17 = .ok (.i2l, 1) := by decide +kernel
theorem dX9_months_18 : decode cX9_months 18 = .ok (.lconst 0, 1) := by decide +kernel
theorem dX9_months_19 : decode cX9_months 19 = .ok (.ldc2_w 204, 3) := by decide +kernel
theorem dX9_months_22 : decode cX9_months 22 = .ok (.invokestatic 67, 3) := by decide +kernel
theorem dX9_months_25 : decode cX9_months 25 = .ok (.ifCond .ne 6, 3) := by decide +kernel
theorem dX9_months_28 : decode cX9_months 28 = .ok (.bipush (-102), 2) := by decide +kernel
theorem dX9_months_30 : decode cX9_months 30 = .ok (.ireturn, 1) := by decide +kernel
theorem dX9_months_31 : decode cX9_months 31 = .ok (.aload_n 0, 1) := by decide +kernel
theorem dX9_months_32 : decode cX9_months 32 = .ok (.invokevirtual 158, 3) := by decide +kernel
theorem dX9_months_35 : decode cX9_months 35 = .ok (.ifCond .eq 6, 3) := by decide +kernel
theorem dX9_months_38 : decode cX9_months 38 = .ok (.bipush (-103), 2) := by decide +kernel
theorem dX9_months_40 : decode cX9_months 40 = .ok (.ireturn, 1) := by decide +kernel
theorem dX9_months_41 : decode cX9_months 41 = .ok (.aload_n 0, 1) := by decide +kernel
theorem dX9_months_42 : decode cX9_months 42 = .ok (.iload_n 2, 1) := by decide +kernel
theorem dX9_months_43 : decode cX9_months 43 = .ok (.putfield 228, 3) := by decide +kernel
theorem dX9_months_46 : decode cX9_months 46 = .ok (.aload_n 0, 1) := by decide +kernel
theorem dX9_months_47 : decode cX9_months 47 = .ok (.invokevirtual 130, 3) := by decide +kernel
theorem dX9_months_50 : decode cX9_months 50 = .ok (.iconst 0, 1) := by decide +kernel
theorem dX9_months_51 : decode cX9_months 51 = .ok (.istore 4, 2) := by decide +kernel
theorem dX9_months_53 : decode cX9_months 53 = .ok (.iconst 1, 1) := by decide +kernel
theorem dX9_months_54 : decode cX9_months 54 = .ok (.istore 5, 2) := by decide +kernel
theorem dX9_months_56 : decode cX9_months 56 = .ok (.iload 5, 2) := by decide +kernel
theorem dX9_months_58 : decode cX9_months 58 = .ok (.iload_n 1, 1) := by decide +kernel
theorem dX9_months_59 : decode cX9_months 59 = .ok (.if_icmp .gt 75, 3) := by decide +kernel
theorem dX9_months_62 : decode cX9_months 62 = .ok (.aload_n 0, 1) := by decide +kernel
theorem dX9_months_63 : decode cX9_months 63 = .ok (.aload_n 0, 1) := by decide +kernel
theorem dX9_months_64 : decode cX9_months 64 = .ok (.getfield 95, 3) := by decide +kernel
theorem dX9_months_67 : decode cX9_months 67 = .ok (.iconst 1, 1) := by decide +kernel
theorem dX9_months_68 : decode cX9_months 68 = .ok (.iadd, 1) := by decide +kernel
theorem dX9_months_69 : decode cX9_months 69 = .ok (.invokevirtual 238, 3) := by decide +kernel
theorem dX9_months_72 : decode cX9_months 72 = .ok (.istore 6, 2) := by decide +kernel
theorem dX9_months_74 : decode cX9_months 74 = .ok (.iload 6, 2) := by decide +kernel
theorem dX9_months_76 : decode cX9_months 76 = .ok (.aload_n 0, 1) := by decide +kernel
theorem dX9_months_77 : decode cX9_months 77 = .ok (.getfield 95, 3) := by decide +kernel
theorem dX9_months_80 : decode cX9_months 80 = .ok (.if_icmp .ge 19, 3) := by decide +kernel
theorem dX9_months_83 : decode cX9_months 83 = .ok (.aload_n 0, 1) := by decide +kernel
theorem dX9_months_84 : decode cX9_months 84 = .ok (.getfield 34, 3) := by decide +kernel
theorem dX9_months_87 : decode cX9_months 87 = .ok (.iload 6, 2) := by decide +kernel
theorem dX9_months_89 : decode cX9_months 89 = .ok (.iaload, 1) := by decide +kernel
theorem dX9_months_90 : decode cX9_months 90 = .ok (.ifCond .ne 9, 3) := by decide +kernel
theorem dX9_months_93 : decode cX9_months 93 = .ok (.aload_n 0, 1) := by decide +kernel
theorem dX9_months_94 : decode cX9_months 94 = .ok (.iload 6, 2) := by decide +kernel
theorem dX9_months_96 : decode cX9_months 96 = .ok (.invokevirtual 151, 3) := by decide +kernel
theorem dX9_months_99 : decode cX9_months 99 = .ok (.aload_n 0, 1) := by decide +kernel
theorem dX9_months_100 : decode cX9_months 100 = .ok (.invokevirtual 162, 3) := by decide +kernel
theorem dX9_months_103 : decode cX9_months 103 = .ok (.iload 4, 2) := by decide +kernel
theorem dX9_months_105 : decode cX9_months 105 = .ok (.aload_n 0, 1) := by decide +kernel
theorem dX9_months_106 : decode cX9_months 106 = .ok (.getfield 101, 3) := by decide +kernel
theorem dX9_months_109 : decode cX9_months 109 = .ok (.iload 5, 2) := by decide +kernel
theorem dX9_months_111 : decode cX9_months 111 = .ok (.iadd, 1) := by decide +kernel
theorem dX9_months_112 : decode cX9_months 112 = .ok (.iconst 5, 1) := by decide +kernel
theorem dX9_months_113 : decode cX9_months 113 = .ok (.irem, 1) := by decide +kernel
theorem dX9_months_114 : decode cX9_months 114 = .ok (.ifCond .ne 10, 3) := by decide +kernel
theorem dX9_months_117 : decode cX9_months 117 = .ok (.aload_n 0, 1) := by decide +kernel
theorem dX9_months_118 : decode cX9_months 118 = .ok (.invokevirtual 165, 3) := by decide +kernel
theorem dX9_months_121 : decode cX9_months 121 = .ok (.goto 4, 3) := by decide +kernel
theorem dX9_months_124 : decode cX9_months 124 = .ok (.iconst 0, 1) := by decide +kernel
theorem dX9_months_125 : decode cX9_months 125 = .ok (.iadd, 1) := by decide +kernel
theorem dX9_months_126 : decode cX9_months 126 = .ok (.istore 4, 2) := by decide +kernel
theorem dX9_months_128 : decode cX9_months 128 = .ok (.iinc 5 1, 3) := by decide +kernel
theorem dX9_months_131 : decode cX9_months 131 = .ok (.goto (-75), 3) := by decide +kernel
theorem dX9_months_134 : decode cX9_months 134 = .ok (.iload_n 3, 1) := by decide +kernel
theorem dX9_months_135 : decode cX9_months 135 = .ok (.ifCond .ne 8, 3) := by decide +kernel
theorem dX9_months_138 : decode cX9_months 138 = .ok (.iload 4, 2) := by decide +kernel
theorem dX9_months_140 : decode cX9_months 140 = .ok (.goto 19, 3) := by decide +kernel
theorem dX9_months_143 : decode cX9_months 143 = .ok (.iload_n 3, 1) := by decide +kernel
theorem dX9_months_144 : decode cX9_months 144 = .ok (.iconst 1, 1) := by decide +kernel
theorem dX9_months_145 : decode cX9_months 145 = .ok (.if_icmp .ne 10, 3) := by decide +kernel
theorem dX9_months_148 : decode cX9_months 148 = .ok (.aload_n 0, 1) := by decide +kernel
theorem dX9_months_149 : decode cX9_months 149 = .ok (.getfield 117, 3) := by decide +kernel
theorem dX9_months_152 : decode cX9_months 152 = .ok (.goto 7, 3) := by decide +kernel
theorem dX9_months_155 : decode cX9_months 155 = .ok (.aload_n 0, 1) := by decide +kernel
theorem dX9_months_156 : decode cX9_months 156 = .ok (.getfield 228, 3) := by decide +kernel
theorem dX9_months_159 : decode cX9_months 159 = .ok (.ireturn, 1) := by decide +kernel
set_option maxRecDepth 20000 in
theorem ggX9_image_X9_lacks : GoodIn wsX9_image wsX9_lacks := goodIn_r _ [27, 28, 32, 33, 34, 35, 36, 37, 38, 39, 40, 41, 42, 43, 44, 45, 46, 47, 48, 49, 50, 51, 52, 53, 54, 55, 56, 57, 58, 59, 60, 61, 62, 63, 64, 65] (by decide +kernel) (by decide +kernel)
set_option maxRecDepth 20000 in
theorem gX9_image_X9_lacks : GoodIn wsX9_image (wsV RX9 158 RX9 yX9_lacks wsX9_lacks) := goodIn_app (goodIn_of _ (by decide +kernel)) ggX9_image_X9_lacks
set_option maxRecDepth 20000 in
theorem ggX9_image_X9_copy : GoodIn wsX9_image wsX9_copy := goodIn_r _ [31] (by decide +kernel) (by decide +kernel)
set_option maxRecDepth 20000 in
theorem gX9_image_X9_copy : GoodIn wsX9_image (va_wsS RX9 113 yX9_copy wsX9_copy) := goodIn_app (goodIn_of _ (by decide +kernel)) ggX9_image_X9_copy
theorem dX9_image_0 : decode cX9_image 0 = .ok (.aload_n 0, 1) := by decide +kernel
theorem dX9_image_1 : decode cX9_image 1 = .ok (.invokevirtual 158, 3) := by decide +kernel
theorem dX9_image_4 : decode cX9_image 4 = .ok (.ifCond .eq 6, 3) := by decide +kernel
theorem dX9_image_7 : decode cX9_image 7 = .ok (.bipush (-103), 2) := by decide +kernel
theorem dX9_image_9 : decode cX9_image 9 = .ok (.ireturn, 1) := by decide +kernel
theorem dX9_image_10 : decode cX9_image 10 = .ok (.aload_n 0, 1) := by decide +kernel
theorem dX9_image_11 : decode cX9_image 11 = .ok (.getfield 13, 3) := by decide +kernel
theorem dX9_image_14 : decode cX9_image 14 = .ok (.aload_n 0, 1) := by decide +kernel
theorem dX9_image_15 : decode cX9_image 15 = .ok (.getfield 43, 3) := by decide +kernel
theorem dX9_image_18 : decode cX9_image 18 = .ok (.invokestatic 113, 3) := by decide +kernel
theorem dX9_image_21 : decode cX9_image 21 = .ok (.aload_n 0, 1) := by decide +kernel
theorem dX9_image_22 : decode cX9_image 22 = .ok (.getfield 16, 3) := by decide +kernel
theorem dX9_image_25 : decode cX9_image 25 = .ok (.aload_n 0, 1) := by decide +kernel
theorem dX9_image_26 : decode cX9_image 26 = .ok (.getfield 46, 3) := by decide +kernel
theorem dX9_image_29 : decode cX9_image 29 = .ok (.invokestatic 113, 3) := by decide +kernel
theorem dX9_image_32 : decode cX9_image 32 = .ok (.aload_n 0, 1) := by decide +kernel
theorem dX9_image_33 : decode cX9_image 33 = .ok (.getfield 19, 3) := by decide +kernel
theorem dX9_image_36 : decode cX9_image 36 = .ok (.aload_n 0, 1) := by decide +kernel
theorem dX9_image_37 : decode cX9_image 37 = .ok (.getfield 49, 3) := by decide +kernel
theorem dX9_image_40 : decode cX9_image 40 = .ok (.invokestatic 113, 3) := by decide +kernel
theorem dX9_image_43 : decode cX9_image 43 = .ok (.aload_n 0, 1) := by decide +kernel
theorem dX9_image_44 : decode cX9_image 44 = .ok (.getfield 22, 3) := by decide +kernel
theorem dX9_image_47 : decode cX9_image 47 = .ok (.aload_n 0, 1) := by decide +kernel
theorem dX9_image_48 : decode cX9_image 48 = .ok (.getfield 52, 3) := by decide +kernel
theorem dX9_image_51 : decode cX9_image 51 = .ok (.invokestatic 113, 3) := by decide +kernel
theorem dX9_image_54 : decode cX9_image 54 = .ok (.aload_n 0, 1) := by decide +kernel
theorem dX9_image_55 : decode cX9_image 55 = .ok (.getfield 25, 3) := by decide +kernel
theorem dX9_image_58 : decode cX9_image 58 = .ok (.aload_n 0, 1) := by decide +kernel
theorem dX9_image_59 : decode cX9_image 59 = .ok (.getfield 55, 3) := by decide +kernel
theorem dX9_image_62 : decode cX9_image 62 = .ok (.invokestatic 113, 3) := by decide +kernel
theorem dX9_image_65 : decode cX9_image 65 = .ok (.aload_n 0, 1) := by decide +kernel
theorem dX9_image_66 : decode cX9_image 66 = .ok (.getfield 40, 3) := by decide +kernel
theorem dX9_image_69 : decode cX9_image 69 = .ok (.aload_n 0, 1) := by decide +kernel
theorem dX9_image_70 : decode cX9_image 70 = .ok (.getfield 58, 3) := by decide +kernel
theorem dX9_image_73 : decode cX9_image 73 = .ok (.invokestatic 113, 3) := by decide +kernel
theorem dX9_image_76 : decode cX9_image 76 = .ok (.aload_n 0, 1) := by decide +kernel
theorem dX9_image_77 : decode cX9_image 77 = .ok (.aload_n 0, 1) := by decide +kernel
theorem dX9_image_78 : decode cX9_image 78 = .ok (.getfield 98, 3) := by decide +kernel
theorem dX9_image_81 : decode cX9_image 81 = .ok (.putfield 241, 3) := by decide +kernel
theorem dX9_image_84 : decode cX9_image 84 = .ok (.aload_n 0, 1) := by decide +kernel
theorem dX9_image_85 : decode cX9_image 85 = .ok (.aload_n 0, 1) := by decide +kernel
theorem dX9_image_86 : decode cX9_image 86 = .ok (.getfield 101, 3) := by decide +kernel
theorem dX9_image_89 : decode cX9_image 89 = .ok (.putfield 244, 3) := by decide +kernel
theorem dX9_image_92 : decode cX9_image 92 = .ok (.aload_n 0, 1) := by decide +kernel
theorem dX9_image_93 : decode cX9_image 93 = .ok (.aload_n 0, 1) := by decide +kernel
theorem dX9_image_94 : decode cX9_image 94 = .ok (.getfield 104, 3) := by decide +kernel
theorem dX9_image_97 : decode cX9_image 97 = .ok (.putfield 247, 3) := by decide +kernel
theorem dX9_image_100 : decode cX9_image 100 = .ok (.aload_n 0, 1) := by decide +kernel
theorem dX9_image_101 : decode cX9_image 101 = .ok (.aload_n 0, 1) := by decide +kernel
theorem dX9_image_102 : decode cX9_image 102 = .ok (.getfield 107, 3) := by decide +kernel
theorem dX9_image_105 : decode cX9_image 105 = .ok (.putfield 250, 3) := by decide +kernel
theorem dX9_image_108 : decode cX9_image 108 = .ok (.aload_n 0, 1) := by decide +kernel
theorem dX9_image_109 : decode cX9_image 109 = .ok (.aload_n 0, 1) := by decide +kernel
theorem dX9_image_110 : decode cX9_image 110 = .ok (.getfield 110, 3) := by decide +kernel
theorem dX9_image_113 : decode cX9_image 113 = .ok (.putfield 61, 3) := by decide +kernel
theorem dX9_image_116 : decode cX9_image 116 = .ok (.aload_n 0, 1) := by decide +kernel
theorem dX9_image_117 : decode cX9_image 117 = .ok (.getfield 101, 3) := by decide +kernel
theorem dX9_image_120 : decode cX9_image 120 = .ok (.ireturn, 1) := by decide +kernel
set_option maxRecDepth 20000 in
theorem ggX9_restore_X9_copy : GoodIn wsX9_restore wsX9_copy := goodIn_r _ [26] (by decide +kernel) (by decide +kernel)
set_option maxRecDepth 20000 in
theorem gX9_restore_X9_copy : GoodIn wsX9_restore (va_wsS RX9 113 yX9_copy wsX9_copy) := goodIn_app (goodIn_of _ (by decide +kernel)) ggX9_restore_X9_copy
theorem dX9_restore_0 : decode cX9_restore 0 = .ok (.aload_n 0, 1) := by decide +kernel
theorem dX9_restore_1 : decode cX9_restore 1 = .ok (.getfield 61, 3) := by decide +kernel
theorem dX9_restore_4 : decode cX9_restore 4 = .ok (.aload_n 0, 1) := by decide +kernel
theorem dX9_restore_5 : decode cX9_restore 5 = .ok (.getfield 110, 3) := by decide +kernel
theorem dX9_restore_8 : decode cX9_restore 8 = .ok (.if_icmp .eq 6, 3) := by decide +kernel
theorem dX9_restore_11 : decode cX9_restore 11 = .ok (.bipush (-103), 2) := by decide +kernel
theorem dX9_restore_13 : decode cX9_restore 13 = .ok (.ireturn, 1) := by decide +kernel
theorem dX9_restore_14 : decode cX9_restore 14 = .ok (.aload_n 0, 1) := by decide +kernel
theorem dX9_restore_15 : decode cX9_restore 15 = .ok (.getfield 43, 3) := by decide +kernel
theorem dX9_restore_18 : decode cX9_restore 18 = .ok (.aload_n 0, 1) := by decide +kernel
theorem dX9_restore_19 : decode cX9_restore 19 = .ok (.getfield 13, 3) := by decide +kernel
theorem dX9_restore_22 : decode cX9_restore 22 = .ok (.invokestatic 113, 3) := by decide +kernel
theorem dX9_restore_25 : decode cX9_restore 25 = .ok (.aload_n 0, 1) := by decide +kernel
theorem dX9_restore_26 : decode cX9_restore 26 = .ok (.getfield 46, 3) := by decide +kernel
theorem dX9_restore_29 : decode cX9_restore 29 = .ok (.aload_n 0, 1) := by decide +kernel
theorem dX9_restore_30 : decode cX9_restore 30 = .ok (.getfield 16, 3) := by decide +kernel
theorem dX9_restore_33 : decode cX9_restore 33 = .ok (.invokestatic 113, 3) := by decide +kernel
theorem dX9_restore_36 : decode cX9_restore 36 = .ok (.aload_n 0, 1) := by decide +kernel
theorem dX9_restore_37 : decode cX9_restore 37 = .ok (.getfield 49, 3) := by decide +kernel
theorem dX9_restore_40 : decode cX9_restore 40 = .ok (.aload_n 0, 1) := by decide +kernel
theorem dX9_restore_41 : decode cX9_restore 41 = .ok (.getfield 19, 3) := by decide +kernel
theorem dX9_restore_44 : decode cX9_restore 44 = .ok (.invokestatic 113, 3) := by decide +kernel
theorem dX9_restore_47 : decode cX9_restore 47 = .ok (.aload_n 0, 1) := by decide +kernel
theorem dX9_restore_48 : decode cX9_restore 48 = .ok (.getfield 52, 3) := by decide +kernel
theorem dX9_restore_51 : decode cX9_restore 51 = .ok (.aload_n 0, 1) := by decide +kernel
theorem dX9_restore_52 : decode cX9_restore 52 = .ok (.getfield 22, 3) := by decide +kernel
theorem dX9_restore_55 : decode cX9_restore 55 = .ok (.invokestatic 113, 3) := by decide +kernel
theorem dX9_restore_58 : decode cX9_restore 58 = .ok (.aload_n 0, 1) := by decide +kernel
theorem dX9_restore_59 : decode cX9_restore 59 = .ok (.getfield 55, 3) := by decide +kernel
theorem dX9_restore_62 : decode cX9_restore 62 = .ok (.aload_n 0, 1) := by decide +kernel
theorem dX9_restore_63 : decode cX9_restore 63 = .ok (.getfield 25, 3) := by decide +kernel
theorem dX9_restore_66 : decode cX9_restore 66 = .ok (.invokestatic 113, 3) := by decide +kernel
theorem dX9_restore_69 : decode cX9_restore 69 = .ok (.aload_n 0, 1) := by decide +kernel
theorem dX9_restore_70 : decode cX9_restore 70 = .ok (.getfield 58, 3) := by decide +kernel
theorem dX9_restore_73 : decode cX9_restore 73 = .ok (.aload_n 0, 1) := by decide +kernel
theorem dX9_restore_74 : decode cX9_restore 74 = .ok (.getfield 40, 3) := by decide +kernel
theorem dX9_restore_77 : decode cX9_restore 77 = .ok (.invokestatic 113, 3) := by decide +kernel
theorem dX9_restore_80 : decode cX9_restore 80 = .ok (.aload_n 0, 1) := by decide +kernel
theorem dX9_restore_81 : decode cX9_restore 81 = .ok (.aload_n 0, 1) := by decide +kernel
theorem dX9_restore_82 : decode cX9_restore 82 = .ok (.getfield 241, 3) := by decide +kernel
theorem dX9_restore_85 : decode cX9_restore 85 = .ok (.putfield 98, 3) := by decide +kernel
theorem dX9_restore_88 : decode cX9_restore 88 = .ok (.aload_n 0, 1) := by decide +kernel
theorem dX9_restore_89 : decode cX9_restore 89 = .ok (.aload_n 0, 1) := by decide +kernel
theorem dX9_restore_90 : decode cX9_restore 90 = .ok (.getfield 244, 3) := by decide +kernel
theorem dX9_restore_93 : decode cX9_restore 93 = .ok (.putfield 101, 3) := by decide +kernel
theorem dX9_restore_96 : decode cX9_restore 96 = .ok (.aload_n 0, 1) := by decide +kernel
theorem dX9_restore_97 : decode cX9_restore 97 = .ok (.aload_n 0, 1) := by decide +kernel
theorem dX9_restore_98 : decode cX9_restore 98 = .ok (.getfield 247, 3) := by decide +kernel
theorem dX9_restore_101 : decode cX9_restore 101 = .ok (.putfield 104, 3) := by decide +kernel
theorem dX9_restore_104 : decode cX9_restore 104 = .ok (.aload_n 0, 1) := by decide +kernel
theorem dX9_restore_105 : decode cX9_restore 105 = .ok (.aload_n 0, 1) := by decide +kernel
theorem dX9_restore_106 : decode cX9_restore 106 = .ok (.getfield 250, 3) := by decide +kernel
theorem dX9_restore_109 : decode cX9_restore 109 = .ok (.putfield 107, 3) := by decide +kernel
theorem dX9_restore_112 : decode cX9_restore 112 = .ok (.aload_n 0, 1) := by decide +kernel
theorem dX9_restore_113 : decode cX9_restore 113 = .ok (.getfield 101, 3) := by decide +kernel
theorem dX9_restore_116 : decode cX9_restore 116 = .ok (.ireturn, 1) := by decide +kernel
theorem dX9_takenMany_0 : decode cX9_takenMany 0 = .ok (.iconst 0, 1) := by decide +kernel
theorem dX9_takenMany_1 : decode cX9_takenMany 1 = .ok (.istore_n 1, 1) := by decide +kernel
theorem dX9_takenMany_2 : decode cX9_takenMany 2 = .ok (.iconst 0, 1) := by decide +kernel
theorem dX9_takenMany_3 : decode cX9_takenMany 3 = .ok (.istore_n 2, 1) := by decide +kernel
theorem dX9_takenMany_4 : decode cX9_takenMany 4 = .ok (.iload_n 2, 1) := by decide +kernel
theorem dX9_takenMany_5 : decode cX9_takenMany 5 = .ok (.aload_n 0, 1) := by decide +kernel
theorem dX9_takenMany_6 : decode cX9_takenMany 6 = .ok (.getfield 95, 3) := by decide +kernel
theorem dX9_takenMany_9 : decode cX9_takenMany 9 = .ok (.if_icmp .ge 18, 3) := by decide +kernel
theorem dX9_takenMany_12 : decode cX9_takenMany 12 = .ok (.iload_n 1, 1) := by decide +kernel
theorem dX9_takenMany_13 : decode cX9_takenMany 13 = .ok (.aload_n 0, 1) := by decide +kernel
theorem dX9_takenMany_14 : decode cX9_takenMany 14 = .ok (.getfield 25, 3) := by decide +kernel
theorem dX9_takenMany_17 : decode cX9_takenMany 17 = .ok (.iload_n 2, 1) := by decide +kernel
theorem dX9_takenMany_18 : decode cX9_takenMany 18 = .ok (.iaload, 1) := by decide +kernel
theorem dX9_takenMany_19 : decode cX9_takenMany 19 = .ok (.iadd, 1) := by decide +kernel
theorem dX9_takenMany_20 : decode cX9_takenMany 20 = .ok (.istore_n 1, 1) := by decide +kernel
theorem dX9_takenMany_21 : decode cX9_takenMany 21 = .ok (.iinc 2 1, 3) := by decide +kernel
theorem dX9_takenMany_24 : decode cX9_takenMany 24 = .ok (.goto (-20), 3) := by decide +kernel
theorem dX9_takenMany_27 : decode cX9_takenMany 27 = .ok (.iload_n 1, 1) := by decide +kernel
theorem dX9_takenMany_28 : decode cX9_takenMany 28 = .ok (.ireturn, 1) := by decide +kernel
set_option maxRecDepth 20000 in
theorem ggX9_countOf_X9_begin : GoodIn wsX9_countOf wsX9_begin := goodIn_r _ [13, 14, 15, 16, 17, 18, 19, 2, 20, 21, 22, 12, 23, 49, 50, 51, 52, 53, 54, 55, 56, 57, 58, 59, 60, 61, 62, 63, 64, 65, 66, 67, 68, 69, 70, 71, 72, 73, 74, 75, 76, 77, 78, 79, 80, 81, 82] (by decide +kernel) (by decide +kernel)
set_option maxRecDepth 20000 in
theorem gX9_countOf_X9_begin : GoodIn wsX9_countOf (wsV RX9 130 RX9 yX9_begin wsX9_begin) := goodIn_app (goodIn_of _ (by decide +kernel)) ggX9_countOf_X9_begin
set_option maxRecDepth 20000 in
theorem ggX9_countOf_X9_takenMany : GoodIn wsX9_countOf wsX9_takenMany := goodIn_r _ [27, 1, 18, 49, 50, 51, 52, 53, 54, 55, 56, 57, 58, 59, 60, 61, 62, 63, 64, 65, 66, 67, 68, 69, 70, 71, 72, 73, 74, 75, 76, 77, 78, 79, 80, 81, 82] (by decide +kernel) (by decide +kernel)
set_option maxRecDepth 20000 in
theorem gX9_countOf_X9_takenMany : GoodIn wsX9_countOf (wsV RX9 253 RX9 yX9_takenMany wsX9_takenMany) := goodIn_app (goodIn_of _ (by decide +kernel)) ggX9_countOf_X9_takenMany
set_option maxRecDepth 20000 in
theorem ggX9_countOf_X9_takenSet : GoodIn wsX9_countOf wsX9_takenSet := goodIn_r _ [31, 1, 18, 49, 50, 51, 52, 53, 54, 55, 56, 57, 58, 59, 60, 61, 62, 63, 64, 65, 66, 67, 68, 69, 70, 71, 72, 73, 74, 75, 76, 77, 78, 79, 80, 81, 82] (by decide +kernel) (by decide +kernel)
set_option maxRecDepth 20000 in
theorem gX9_countOf_X9_takenSet : GoodIn wsX9_countOf (wsV RX9 201 RX9 yX9_takenSet wsX9_takenSet) := goodIn_app (goodIn_of _ (by decide +kernel)) ggX9_countOf_X9_takenSet
set_option maxRecDepth 20000 in
theorem ggX9_countOf_X9_worthOf : GoodIn wsX9_countOf wsX9_worthOf := goodIn_r _ [35, 1, 36, 49, 50, 51, 52, 53, 54, 55, 56, 57, 58, 59, 60, 61, 62, 63, 64, 65, 66, 67, 68, 69, 70, 71, 72, 73, 74, 75, 76, 77, 78, 79, 80, 81, 82] (by decide +kernel) (by decide +kernel)
set_option maxRecDepth 20000 in
theorem gX9_countOf_X9_worthOf : GoodIn wsX9_countOf (wsV RX9 198 RX9 yX9_worthOf wsX9_worthOf) := goodIn_app (goodIn_of _ (by decide +kernel)) ggX9_countOf_X9_worthOf
set_option maxRecDepth 20000 in
theorem ggX9_countOf_X9_missedLeft : GoodIn wsX9_countOf wsX9_missedLeft := goodIn_r _ [40, 1, 19, 41, 42, 43, 12, 44, 45, 15, 17, 46, 47, 48, 49, 50, 51, 52, 53, 54, 55, 56, 57, 58, 59, 60, 61, 62, 63, 64, 65, 66, 67, 68, 69, 70, 71, 72, 73, 74, 75, 76, 77, 78, 79, 80, 81, 82] (by decide +kernel) (by decide +kernel)
set_option maxRecDepth 20000 in
theorem gX9_countOf_X9_missedLeft : GoodIn wsX9_countOf (wsV RX9 181 RX9 yX9_missedLeft wsX9_missedLeft) := goodIn_app (goodIn_of _ (by decide +kernel)) ggX9_countOf_X9_missedLeft
theorem dX9_countOf_0 : decode cX9_countOf 0 = .ok (.aload_n 0, 1) := by decide +kernel
theorem dX9_countOf_1 : decode cX9_countOf 1 = .ok (.invokevirtual 130, 3) := by decide +kernel
theorem dX9_countOf_4 : decode cX9_countOf 4 = .ok (.iload_n 1, 1) := by decide +kernel
theorem dX9_countOf_5 : decode cX9_countOf 5 = .ok (.tableswitch 140 0 11 #[63, 68, 73, 78, 83, 101, 106, 111, 120, 125, 130, 135], 63) := by decide +kernel
theorem dX9_countOf_68 : decode cX9_countOf 68 = .ok (.aload_n 0, 1) := by decide +kernel
theorem dX9_countOf_69 : decode cX9_countOf 69 = .ok (.getfield 95, 3) := by decide +kernel
theorem dX9_countOf_72 : decode cX9_countOf 72 = .ok (.ireturn, 1) := by decide +kernel
theorem dX9_countOf_73 : decode cX9_countOf 73 = .ok (.aload_n 0, 1) := by decide +kernel
theorem dX9_countOf_74 : decode cX9_countOf 74 = .ok (.invokevirtual 253, 3) := by decide +kernel
theorem dX9_countOf_77 : decode cX9_countOf 77 = .ok (.ireturn, 1) := by decide +kernel
theorem dX9_countOf_78 : decode cX9_countOf 78 = .ok (.aload_n 0, 1) := by decide +kernel
theorem dX9_countOf_79 : decode cX9_countOf 79 = .ok (.getfield 98, 3) := by decide +kernel
theorem dX9_countOf_82 : decode cX9_countOf 82 = .ok (.ireturn, 1) := by decide +kernel
theorem dX9_countOf_83 : decode cX9_countOf 83 = .ok (.aload_n 0, 1) := by decide +kernel
theorem dX9_countOf_84 : decode cX9_countOf 84 = .ok (.getfield 101, 3) := by decide +kernel
theorem dX9_countOf_87 : decode cX9_countOf 87 = .ok (.ireturn, 1) := by decide +kernel
theorem dX9_countOf_88 : decode cX9_countOf 88 = .ok (.aload_n 0, 1) := by decide +kernel
theorem dX9_countOf_89 : decode cX9_countOf 89 = .ok (.iconst 1, 1) := by decide +kernel
theorem dX9_countOf_90 : decode cX9_countOf 90 = .ok (.aload_n 0, 1) := by decide +kernel
theorem dX9_countOf_91 : decode cX9_countOf 91 = .ok (.getfield 95, 3) := by decide +kernel
theorem dX9_countOf_94 : decode cX9_countOf 94 = .ok (.ishl, 1) := by decide +kernel
theorem dX9_countOf_95 : decode cX9_countOf 95 = .ok (.iconst 1, 1) := by decide +kernel
theorem dX9_countOf_96 : decode cX9_countOf 96 = .ok (.isub, 1) := by decide +kernel
theorem dX9_countOf_97 : decode cX9_countOf 97 = .ok (.aload_n 0, 1) := by decide +kernel
theorem dX9_countOf_98 : decode cX9_countOf 98 = .ok (.invokevirtual 201, 3) := by decide +kernel
theorem dX9_countOf_101 : decode cX9_countOf 101 = .ok (.isub, 1) := by decide +kernel
theorem dX9_countOf_102 : decode cX9_countOf 102 = .ok (.invokevirtual 198, 3) := by decide +kernel
theorem dX9_countOf_105 : decode cX9_countOf 105 = .ok (.ireturn, 1) := by decide +kernel
theorem dX9_countOf_106 : decode cX9_countOf 106 = .ok (.aload_n 0, 1) := by decide +kernel
theorem dX9_countOf_107 : decode cX9_countOf 107 = .ok (.invokevirtual 181, 3) := by decide +kernel
theorem dX9_countOf_110 : decode cX9_countOf 110 = .ok (.ireturn, 1) := by decide +kernel
theorem dX9_countOf_111 : decode cX9_countOf 111 = .ok (.aload_n 0, 1) := by decide +kernel
theorem dX9_countOf_112 : decode cX9_countOf 112 = .ok (.getfield 104, 3) := by decide +kernel
theorem dX9_countOf_115 : decode cX9_countOf 115 = .ok (.ireturn, 1) := by decide +kernel
theorem dX9_countOf_116 : decode cX9_countOf 116 = .ok (.aload_n 0, 1) := by decide +kernel
theorem dX9_countOf_117 : decode cX9_countOf 117 = .ok (.aload_n 0, 1) := by decide +kernel
theorem dX9_countOf_118 : decode cX9_countOf 118 = .ok (.invokevirtual 201, 3) := by decide +kernel
theorem dX9_countOf_121 : decode cX9_countOf 121 = .ok (.invokevirtual 198, 3) := by decide +kernel
theorem dX9_countOf_124 : decode cX9_countOf 124 = .ok (.ireturn, 1) := by decide +kernel
theorem dX9_countOf_125 : decode cX9_countOf 125 = .ok (.aload_n 0, 1) := by decide +kernel
theorem dX9_countOf_126 : decode cX9_countOf 126 = .ok (.getfield 107, 3) := by decide +kernel
theorem dX9_countOf_129 : decode cX9_countOf 129 = .ok (.ireturn, 1) := by decide +kernel
theorem dX9_countOf_130 : decode cX9_countOf 130 = .ok (.aload_n 0, 1) := by decide +kernel
theorem dX9_countOf_131 : decode cX9_countOf 131 = .ok (.getfield 71, 3) := by decide +kernel
theorem dX9_countOf_134 : decode cX9_countOf 134 = .ok (.ireturn, 1) := by decide +kernel
theorem dX9_countOf_135 : decode cX9_countOf 135 = .ok (.aload_n 0, 1) := by decide +kernel
theorem dX9_countOf_136 : decode cX9_countOf 136 = .ok (.getfield 110, 3) := by decide +kernel
theorem dX9_countOf_139 : decode cX9_countOf 139 = .ok (.ireturn, 1) := by decide +kernel
theorem dX9_countOf_140 : decode cX9_countOf 140 = .ok (.aload_n 0, 1) := by decide +kernel
theorem dX9_countOf_141 : decode cX9_countOf 141 = .ok (.getfield 220, 3) := by decide +kernel
theorem dX9_countOf_144 : decode cX9_countOf 144 = .ok (.ireturn, 1) := by decide +kernel
theorem dX9_countOf_145 : decode cX9_countOf 145 = .ok (.bipush (-102), 2) := by decide +kernel
theorem dX9_countOf_147 : decode cX9_countOf 147 = .ok (.ireturn, 1) := by decide +kernel
set_option maxRecDepth 20000 in
theorem ggX9_count_X9_countOf : GoodIn wsX9_count wsX9_countOf := goodIn_r _ [5, 6, 7, 8, 9, 10, 11, 12, 13, 14, 15, 16, 4, 17, 18, 19, 20, 21, 22, 23, 24, 25, 26, 27, 28, 29, 30, 31, 32, 33, 34, 35, 36, 37, 38, 39, 40, 41, 42, 43, 44, 45, 46, 47, 48, 49, 50, 51, 52, 53, 54, 55, 56, 57, 58, 59, 60, 61, 62, 63, 64, 65, 66, 67, 68, 69, 70, 71, 72, 73, 74, 75, 76, 77, 78, 79, 80, 81, 82, 83, 84, 85, 86] (by decide +kernel) (by decide +kernel)
set_option maxRecDepth 20000 in
theorem gX9_count_X9_countOf : GoodIn wsX9_count (wsV RX9 256 RX9 yX9_countOf wsX9_countOf) := goodIn_app (goodIn_of _ (by decide +kernel)) ggX9_count_X9_countOf
theorem dX9_count_0 : decode cX9_count 0 = .ok (.aload_n 0, 1) := by decide +kernel
theorem dX9_count_1 : decode cX9_count 1 = .ok (.iload_n 1, 1) := by decide +kernel
theorem dX9_count_2 : decode cX9_count 2 = .ok (.invokevirtual 256, 3) := by decide +kernel
theorem dX9_count_5 : decode cX9_count 5 = .ok (.ireturn, 1) := by decide +kernel
theorem dX9_say_0 : decode cX9_say 0 = .ok (.aload_n 0, 1) := by decide +kernel
theorem dX9_say_1 : decode cX9_say 1 = .ok (.ldc2_w 259, 3) := by decide +kernel
theorem dX9_say_4 : decode cX9_say 4 = .ok (.aload_n 0, 1) := by decide +kernel
theorem dX9_say_5 : decode cX9_say 5 = .ok (.getfield 261, 3) := by decide +kernel
theorem dX9_say_8 : decode cX9_say 8 = .ok (.lmul, 1) := by decide +kernel
theorem dX9_say_9 : decode cX9_say 9 = .ok (.lload_n 1, 1) := by decide +kernel
theorem dX9_say_10 : decode cX9_say 10 = .ok (.ladd, 1) := by decide +kernel
theorem dX9_say_11 : decode cX9_say 11 = .ok (.putfield 261, 3) := by decide +kernel
theorem dX9_say_14 : decode cX9_say 14 = .ok (.return_, 1) := by decide +kernel
set_option maxRecDepth 20000 in
theorem ggX9_sayHouse_X9_nextOf : GoodIn wsX9_sayHouse wsX9_nextOf := goodIn_r _ [5, 6, 7, 8, 4, 9, 10, 11, 12, 13, 14, 15, 16, 17, 18, 19, 20, 21, 22, 23, 24, 25, 26, 27, 28, 29, 30, 31, 32, 33, 34, 35, 36, 37, 86, 87, 88, 89, 90, 91, 92, 93, 94, 95, 96, 97, 98, 99, 100, 101, 102, 103, 104, 105, 106, 107, 108, 109, 110, 111, 112, 113, 114, 115, 116, 117, 118, 119] (by decide +kernel) (by decide +kernel)
set_option maxRecDepth 20000 in
theorem gX9_sayHouse_X9_nextOf : GoodIn wsX9_sayHouse (wsV RX9 174 RX9 yX9_nextOf wsX9_nextOf) := goodIn_app (goodIn_of _ (by decide +kernel)) ggX9_sayHouse_X9_nextOf
set_option maxRecDepth 20000 in
theorem ggX9_sayHouse_X9_say : GoodIn wsX9_sayHouse wsX9_say := goodIn_r _ [41, 42, 43, 86, 87, 88, 89, 90, 91, 92, 93, 94, 95, 96, 97, 98, 99, 100, 101, 102, 103, 104, 105, 106, 107, 108, 109, 110, 111, 112, 113, 114, 115, 116, 117, 118, 119] (by decide +kernel) (by decide +kernel)
set_option maxRecDepth 20000 in
theorem gX9_sayHouse_X9_say : GoodIn wsX9_sayHouse (wsV RX9 265 RX9 yX9_say wsX9_say) := goodIn_app (goodIn_of _ (by decide +kernel)) ggX9_sayHouse_X9_say
set_option maxRecDepth 20000 in
theorem ggX9_sayHouse_X9_siegeOf : GoodIn wsX9_sayHouse wsX9_siegeOf := goodIn_r _ [47, 48, 49, 50, 51, 4, 52, 53, 25, 15, 6, 7, 8, 9, 10, 11, 12, 13, 14, 16, 17, 18, 19, 20, 54, 55, 56, 57, 58, 59, 60, 21, 22, 23, 24, 61, 62, 63, 64, 65, 26, 27, 28, 29, 30, 31, 32, 33, 34, 35, 36, 37, 66, 67, 68, 69, 86, 87, 88, 89, 90, 91, 92, 93, 94, 95, 96, 97, 98, 99, 100, 101, 102, 103, 104, 105, 106, 107, 108, 109, 110, 111, 112, 113, 114, 115, 116, 117, 118, 119] (by decide +kernel) (by decide +kernel)
set_option maxRecDepth 20000 in
theorem gX9_sayHouse_X9_siegeOf : GoodIn wsX9_sayHouse (wsV RX9 192 RX9 yX9_siegeOf wsX9_siegeOf) := goodIn_app (goodIn_of _ (by decide +kernel)) ggX9_sayHouse_X9_siegeOf
set_option maxRecDepth 20000 in
theorem ggX9_sayHouse_X9_makeUpOf : GoodIn wsX9_sayHouse wsX9_makeUpOf := goodIn_r _ [73, 53, 25, 16, 6, 7, 8, 4, 9, 10, 11, 12, 13, 14, 15, 17, 18, 19, 20, 74, 75, 76, 77, 30, 31, 32, 33, 34, 35, 36, 37, 78, 79, 80, 81, 65, 82, 83, 84, 85, 86, 87, 88, 89, 90, 91, 92, 93, 94, 95, 96, 97, 98, 99, 100, 101, 102, 103, 104, 105, 106, 107, 108, 109, 110, 111, 112, 113, 114, 115, 116, 117, 118, 119] (by decide +kernel) (by decide +kernel)
set_option maxRecDepth 20000 in
theorem gX9_sayHouse_X9_makeUpOf : GoodIn wsX9_sayHouse (wsV RX9 206 RX9 yX9_makeUpOf wsX9_makeUpOf) := goodIn_app (goodIn_of _ (by decide +kernel)) ggX9_sayHouse_X9_makeUpOf
theorem dX9_sayHouse_0 : decode cX9_sayHouse 0 = .ok (.aload_n 0, 1) := by decide +kernel
theorem dX9_sayHouse_1 : decode cX9_sayHouse 1 = .ok (.aload_n 0, 1) := by decide +kernel
theorem dX9_sayHouse_2 : decode cX9_sayHouse 2 = .ok (.iconst 0, 1) := by decide +kernel
theorem dX9_sayHouse_3 : decode cX9_sayHouse 3 = .ok (.invokevirtual 174, 3) := by decide +kernel
theorem dX9_sayHouse_6 : decode cX9_sayHouse 6 = .ok (.i2l, 1) := by decide +kernel
theorem dX9_sayHouse_7 : decode cX9_sayHouse 7 = .ok (.invokevirtual 265, 3) := by decide +kernel
theorem dX9_sayHouse_10 : decode cX9_sayHouse 10 = .ok (.aload_n 0, 1) := by decide +kernel
theorem dX9_sayHouse_11 : decode cX9_sayHouse 11 = .ok (.aload_n 0, 1) := by decide +kernel
theorem dX9_sayHouse_12 : decode cX9_sayHouse 12 = .ok (.iconst 5, 1) := by decide +kernel
theorem dX9_sayHouse_13 : decode cX9_sayHouse 13 = .ok (.invokevirtual 174, 3) := by decide +kernel
theorem dX9_sayHouse_16 : decode cX9_sayHouse 16 = .ok (.i2l, 1) := by decide +kernel
theorem dX9_sayHouse_17 : decode cX9_sayHouse 17 = .ok (.invokevirtual 265, 3) := by decide +kernel
theorem dX9_sayHouse_20 : decode cX9_sayHouse 20 = .ok (.aload_n 0, 1) := by decide +kernel
theorem dX9_sayHouse_21 : decode cX9_sayHouse 21 = .ok (.aload_n 0, 1) := by decide +kernel
theorem dX9_sayHouse_22 : decode cX9_sayHouse 22 = .ok (.iconst 2, 1) := by decide +kernel
theorem dX9_sayHouse_23 : decode cX9_sayHouse 23 = .ok (.iconst 0, 1) := by decide +kernel
theorem dX9_sayHouse_24 : decode cX9_sayHouse 24 = .ok (.invokevirtual 192, 3) := by decide +kernel
theorem dX9_sayHouse_27 : decode cX9_sayHouse 27 = .ok (.i2l, 1) := by decide +kernel
theorem dX9_sayHouse_28 : decode cX9_sayHouse 28 = .ok (.invokevirtual 265, 3) := by decide +kernel
theorem dX9_sayHouse_31 : decode cX9_sayHouse 31 = .ok (.aload_n 0, 1) := by decide +kernel
theorem dX9_sayHouse_32 : decode cX9_sayHouse 32 = .ok (.aload_n 0, 1) := by decide +kernel
theorem dX9_sayHouse_33 : decode cX9_sayHouse 33 = .ok (.iconst 2, 1) := by decide +kernel
theorem dX9_sayHouse_34 : decode cX9_sayHouse 34 = .ok (.iconst 1, 1) := by decide +kernel
theorem dX9_sayHouse_35 : decode cX9_sayHouse 35 = .ok (.invokevirtual 192, 3) := by decide +kernel
theorem dX9_sayHouse_38 : decode cX9_sayHouse 38 = .ok (.i2l, 1) := by decide +kernel
theorem dX9_sayHouse_39 : decode cX9_sayHouse 39 = .ok (.invokevirtual 265, 3) := by decide +kernel
theorem dX9_sayHouse_42 : decode cX9_sayHouse 42 = .ok (.aload_n 0, 1) := by decide +kernel
theorem dX9_sayHouse_43 : decode cX9_sayHouse 43 = .ok (.aload_n 0, 1) := by decide +kernel
theorem dX9_sayHouse_44 : decode cX9_sayHouse 44 = .ok (.iconst 2, 1) := by decide +kernel
theorem dX9_sayHouse_45 : decode cX9_sayHouse 45 = .ok (.bipush 10, 2) := by decide +kernel
theorem dX9_sayHouse_47 : decode cX9_sayHouse 47 = .ok (.invokevirtual 192, 3) := by decide +kernel
theorem dX9_sayHouse_50 : decode cX9_sayHouse 50 = .ok (.i2l, 1) := by decide +kernel
theorem dX9_sayHouse_51 : decode cX9_sayHouse 51 = .ok (.invokevirtual 265, 3) := by decide +kernel
theorem dX9_sayHouse_54 : decode cX9_sayHouse 54 = .ok (.aload_n 0, 1) := by decide +kernel
theorem dX9_sayHouse_55 : decode cX9_sayHouse 55 = .ok (.aload_n 0, 1) := by decide +kernel
theorem dX9_sayHouse_56 : decode cX9_sayHouse 56 = .ok (.iconst 2, 1) := by decide +kernel
theorem dX9_sayHouse_57 : decode cX9_sayHouse 57 = .ok (.bipush 11, 2) := by decide +kernel
theorem dX9_sayHouse_59 : decode cX9_sayHouse 59 = .ok (.invokevirtual 192, 3) := by decide +kernel
theorem dX9_sayHouse_62 : decode cX9_sayHouse 62 = .ok (.i2l, 1) := by decide +kernel
theorem dX9_sayHouse_63 : decode cX9_sayHouse 63 = .ok (.invokevirtual 265, 3) := by decide +kernel
theorem dX9_sayHouse_66 : decode cX9_sayHouse 66 = .ok (.aload_n 0, 1) := by decide +kernel
theorem dX9_sayHouse_67 : decode cX9_sayHouse 67 = .ok (.aload_n 0, 1) := by decide +kernel
theorem dX9_sayHouse_68 : decode cX9_sayHouse 68 = .ok (.iconst 0, 1) := by decide +kernel
theorem dX9_sayHouse_69 : decode cX9_sayHouse 69 = .ok (.invokevirtual 206, 3) := by decide +kernel
theorem dX9_sayHouse_72 : decode cX9_sayHouse 72 = .ok (.i2l, 1) := by decide +kernel
theorem dX9_sayHouse_73 : decode cX9_sayHouse 73 = .ok (.invokevirtual 265, 3) := by decide +kernel
theorem dX9_sayHouse_76 : decode cX9_sayHouse 76 = .ok (.aload_n 0, 1) := by decide +kernel
theorem dX9_sayHouse_77 : decode cX9_sayHouse 77 = .ok (.aload_n 0, 1) := by decide +kernel
theorem dX9_sayHouse_78 : decode cX9_sayHouse 78 = .ok (.iconst 1, 1) := by decide +kernel
theorem dX9_sayHouse_79 : decode cX9_sayHouse 79 = .ok (.invokevirtual 206, 3) := by decide +kernel
theorem dX9_sayHouse_82 : decode cX9_sayHouse 82 = .ok (.i2l, 1) := by decide +kernel
theorem dX9_sayHouse_83 : decode cX9_sayHouse 83 = .ok (.invokevirtual 265, 3) := by decide +kernel
theorem dX9_sayHouse_86 : decode cX9_sayHouse 86 = .ok (.aload_n 0, 1) := by decide +kernel
theorem dX9_sayHouse_87 : decode cX9_sayHouse 87 = .ok (.aload_n 0, 1) := by decide +kernel
theorem dX9_sayHouse_88 : decode cX9_sayHouse 88 = .ok (.iconst 2, 1) := by decide +kernel
theorem dX9_sayHouse_89 : decode cX9_sayHouse 89 = .ok (.invokevirtual 206, 3) := by decide +kernel
theorem dX9_sayHouse_92 : decode cX9_sayHouse 92 = .ok (.i2l, 1) := by decide +kernel
theorem dX9_sayHouse_93 : decode cX9_sayHouse 93 = .ok (.invokevirtual 265, 3) := by decide +kernel
theorem dX9_sayHouse_96 : decode cX9_sayHouse 96 = .ok (.return_, 1) := by decide +kernel
set_option maxRecDepth 20000 in
theorem ggX9_digest_X9_tellThing : GoodIn wsX9_digest wsX9_tellThing := goodIn_r _ [10, 11, 12, 13, 14, 15, 16, 17, 18, 9, 19, 20, 21, 22, 23, 24, 25, 26, 27, 28, 29, 30, 31, 32, 33, 34, 35, 36, 37, 38, 39, 40, 41, 42, 43, 44, 45, 46, 47, 48, 49, 50, 51, 52, 3, 53, 54, 55, 56, 57, 58, 59, 60, 61, 140, 141, 142, 143, 144, 145, 146, 147, 148, 149, 150, 151, 152, 153, 154, 155, 156, 157, 158, 159, 160, 161, 162, 163, 164, 165, 166, 167, 168, 169, 170, 171, 172, 173] (by decide +kernel) (by decide +kernel)
set_option maxRecDepth 20000 in
theorem gX9_digest_X9_tellThing : GoodIn wsX9_digest (wsV RX9 145 RX9 yX9_tellThing wsX9_tellThing) := goodIn_app (goodIn_of _ (by decide +kernel)) ggX9_digest_X9_tellThing
set_option maxRecDepth 20000 in
theorem ggX9_digest_X9_say : GoodIn wsX9_digest wsX9_say := goodIn_r _ [65, 66, 2, 140, 141, 142, 143, 144, 145, 146, 147, 148, 149, 150, 151, 152, 153, 154, 155, 156, 157, 158, 159, 160, 161, 162, 163, 164, 165, 166, 167, 168, 169, 170, 171, 172, 173] (by decide +kernel) (by decide +kernel)
set_option maxRecDepth 20000 in
theorem gX9_digest_X9_say : GoodIn wsX9_digest (wsV RX9 265 RX9 yX9_say wsX9_say) := goodIn_app (goodIn_of _ (by decide +kernel)) ggX9_digest_X9_say
set_option maxRecDepth 20000 in
theorem ggX9_digest_X9_lacks : GoodIn wsX9_digest wsX9_lacks := goodIn_r _ [70, 3, 140, 141, 142, 143, 144, 145, 146, 147, 148, 149, 150, 151, 152, 153, 154, 155, 156, 157, 158, 159, 160, 161, 162, 163, 164, 165, 166, 167, 168, 169, 170, 171, 172, 173] (by decide +kernel) (by decide +kernel)
set_option maxRecDepth 20000 in
theorem gX9_digest_X9_lacks : GoodIn wsX9_digest (wsV RX9 158 RX9 yX9_lacks wsX9_lacks) := goodIn_app (goodIn_of _ (by decide +kernel)) ggX9_digest_X9_lacks
set_option maxRecDepth 20000 in
theorem ggX9_digest_X9_sayHouse : GoodIn wsX9_digest wsX9_sayHouse := goodIn_r _ [74, 75, 76, 77, 9, 78, 16, 17, 18, 19, 13, 20, 14, 21, 15, 22, 23, 24, 25, 26, 27, 79, 80, 81, 82, 3, 83, 84, 85, 86, 28, 29, 30, 31, 11, 32, 33, 34, 62, 63, 64, 65, 66, 2, 87, 88, 89, 90, 91, 92, 93, 94, 95, 96, 97, 98, 99, 100, 101, 102, 103, 104, 105, 106, 107, 12, 108, 109, 110, 111, 112, 113, 114, 115, 116, 117, 118, 119, 120, 121, 122, 123, 124, 125, 126, 127, 140, 141, 142, 143, 144, 145, 146, 147, 148, 149, 150, 151, 152, 153, 154, 155, 156, 157, 158, 159, 160, 161, 162, 163, 164, 165, 166, 167, 168, 169, 170, 171, 172, 173] (by decide +kernel) (by decide +kernel)
set_option maxRecDepth 20000 in
theorem gX9_digest_X9_sayHouse : GoodIn wsX9_digest (wsV RX9 271 RX9 yX9_sayHouse wsX9_sayHouse) := goodIn_app (goodIn_of _ (by decide +kernel)) ggX9_digest_X9_sayHouse
set_option maxRecDepth 20000 in
theorem ggX9_digest_X9_countOf : GoodIn wsX9_digest wsX9_countOf := goodIn_r _ [131, 3, 23, 132, 133, 39, 4, 134, 135, 16, 17, 18, 9, 19, 13, 20, 14, 21, 15, 22, 24, 25, 26, 27, 136, 137, 138, 139, 124, 125, 126, 127, 120, 121, 122, 123, 12, 108, 109, 110, 111, 28, 29, 30, 31, 11, 32, 33, 34, 140, 141, 142, 143, 144, 145, 146, 147, 148, 149, 150, 151, 152, 153, 154, 155, 156, 157, 158, 159, 160, 161, 162, 163, 164, 165, 166, 167, 168, 169, 170, 171, 172, 173] (by decide +kernel) (by decide +kernel)
set_option maxRecDepth 20000 in
theorem gX9_digest_X9_countOf : GoodIn wsX9_digest (wsV RX9 256 RX9 yX9_countOf wsX9_countOf) := goodIn_app (goodIn_of _ (by decide +kernel)) ggX9_digest_X9_countOf
theorem dX9_digest_0 : decode cX9_digest 0 = .ok (.aload_n 0, 1) := by decide +kernel
theorem dX9_digest_1 : decode cX9_digest 1 = .ok (.ldc2_w 269, 3) := by decide +kernel
theorem dX9_digest_4 : decode cX9_digest 4 = .ok (.putfield 261, 3) := by decide +kernel
theorem dX9_digest_7 : decode cX9_digest 7 = .ok (.iconst 0, 1) := by decide +kernel
theorem dX9_digest_8 : decode cX9_digest 8 = .ok (.istore_n 1, 1) := by decide +kernel
theorem dX9_digest_9 : decode cX9_digest 9 = .ok (.iload_n 1, 1) := by decide +kernel
theorem dX9_digest_10 : decode cX9_digest 10 = .ok (.aload_n 0, 1) := by decide +kernel
theorem dX9_digest_11 : decode cX9_digest 11 = .ok (.getfield 95, 3) := by decide +kernel
theorem dX9_digest_14 : decode cX9_digest 14 = .ok (.if_icmp .ge 34, 3) := by decide +kernel
theorem dX9_digest_17 : decode cX9_digest 17 = .ok (.iconst 0, 1) := by decide +kernel
theorem dX9_digest_18 : decode cX9_digest 18 = .ok (.istore_n 2, 1) := by decide +kernel
theorem dX9_digest_19 : decode cX9_digest 19 = .ok (.iload_n 2, 1) := by decide +kernel
theorem dX9_digest_20 : decode cX9_digest 20 = .ok (.bipush 8, 2) := by decide +kernel
theorem dX9_digest_22 : decode cX9_digest 22 = .ok (.if_icmp .ge 20, 3) := by decide +kernel
theorem dX9_digest_25 : decode cX9_digest 25 = .ok (.aload_n 0, 1) := by decide +kernel
theorem dX9_digest_26 : decode cX9_digest 26 = .ok (.aload_n 0, 1) := by decide +kernel
theorem dX9_digest_27 : decode cX9_digest 27 = .ok (.iload_n 1, 1) := by decide +kernel
theorem dX9_digest_28 : decode cX9_digest 28 = .ok (.iload_n 2, 1) := by decide +kernel
theorem dX9_digest_29 : decode cX9_digest 29 = .ok (.invokevirtual 145, 3) := by decide +kernel
theorem dX9_digest_32 : decode cX9_digest 32 = .ok (.i2l, 1) := by decide +kernel
theorem dX9_digest_33 : decode cX9_digest 33 = .ok (.invokevirtual 265, 3) := by decide +kernel
theorem dX9_digest_36 : decode cX9_digest 36 = .ok (.iinc 2 1, 3) := by decide +kernel
theorem dX9_digest_39 : decode cX9_digest 39 = .ok (.goto (-20), 3) := by decide +kernel
theorem dX9_digest_42 : decode cX9_digest 42 = .ok (.iinc 1 1, 3) := by decide +kernel
theorem dX9_digest_45 : decode cX9_digest 45 = .ok (.goto (-36), 3) := by decide +kernel
theorem dX9_digest_48 : decode cX9_digest 48 = .ok (.aload_n 0, 1) := by decide +kernel
theorem dX9_digest_49 : decode cX9_digest 49 = .ok (.invokevirtual 158, 3) := by decide +kernel
theorem dX9_digest_52 : decode cX9_digest 52 = .ok (.ifCond .ne 7, 3) := by decide +kernel
theorem dX9_digest_55 : decode cX9_digest 55 = .ok (.aload_n 0, 1) := by decide +kernel
theorem dX9_digest_56 : decode cX9_digest 56 = .ok (.invokevirtual 271, 3) := by decide +kernel
theorem dX9_digest_59 : decode cX9_digest 59 = .ok (.iconst 0, 1) := by decide +kernel
theorem dX9_digest_60 : decode cX9_digest 60 = .ok (.istore_n 1, 1) := by decide +kernel
theorem dX9_digest_61 : decode cX9_digest 61 = .ok (.iload_n 1, 1) := by decide +kernel
theorem dX9_digest_62 : decode cX9_digest 62 = .ok (.aload_n 0, 1) := by decide +kernel
theorem dX9_digest_63 : decode cX9_digest 63 = .ok (.getfield 71, 3) := by decide +kernel
theorem dX9_digest_66 : decode cX9_digest 66 = .ok (.if_icmp .ge 20, 3) := by decide +kernel
theorem dX9_digest_69 : decode cX9_digest 69 = .ok (.aload_n 0, 1) := by decide +kernel
theorem dX9_digest_70 : decode cX9_digest 70 = .ok (.aload_n 0, 1) := by decide +kernel
theorem dX9_digest_71 : decode cX9_digest 71 = .ok (.getfield 7, 3) := by decide +kernel
theorem dX9_digest_74 : decode cX9_digest 74 = .ok (.iload_n 1, 1) := by decide +kernel
theorem dX9_digest_75 : decode cX9_digest 75 = .ok (.iaload, 1) := by decide +kernel
theorem dX9_digest_76 : decode cX9_digest 76 = .ok (.i2l, 1) := by decide +kernel
theorem dX9_digest_77 : decode cX9_digest 77 = .ok (.invokevirtual 265, 3) := by decide +kernel
theorem dX9_digest_80 : decode cX9_digest 80 = .ok (.iinc 1 1, 3) := by decide +kernel
theorem dX9_digest_83 : decode cX9_digest 83 = .ok (.goto (-22), 3) := by decide +kernel
theorem dX9_digest_86 : decode cX9_digest 86 = .ok (.iconst 0, 1) := by decide +kernel
theorem dX9_digest_87 : decode cX9_digest 87 = .ok (.istore_n 1, 1) := by decide +kernel
theorem dX9_digest_88 : decode cX9_digest 88 = .ok (.iload_n 1, 1) := by decide +kernel
theorem dX9_digest_89 : decode cX9_digest 89 = .ok (.bipush 12, 2) := by decide +kernel
theorem dX9_digest_91 : decode cX9_digest 91 = .ok (.if_icmp .ge 19, 3) := by decide +kernel
theorem dX9_digest_94 : decode cX9_digest 94 = .ok (.aload_n 0, 1) := by decide +kernel
theorem dX9_digest_95 : decode cX9_digest 95 = .ok (.aload_n 0, 1) := by decide +kernel
theorem dX9_digest_96 : decode cX9_digest 96 = .ok (.iload_n 1, 1) := by decide +kernel
theorem dX9_digest_97 : decode cX9_digest 97 = .ok (.invokevirtual 256, 3) := by decide +kernel
theorem dX9_digest_100 : decode cX9_digest 100 = .ok (.i2l, 1) := by decide +kernel
theorem dX9_digest_101 : decode cX9_digest 101 = .ok (.invokevirtual 265, 3) := by decide +kernel
theorem dX9_digest_104 : decode cX9_digest 104 = .ok (.iinc 1 1, 3) := by decide +kernel
theorem dX9_digest_107 : decode cX9_digest 107 = .ok (.goto (-19), 3) := by decide +kernel
theorem dX9_digest_110 : decode cX9_digest 110 = .ok (.aload_n 0, 1) := by decide +kernel
theorem dX9_digest_111 : decode cX9_digest 111 = .ok (.getfield 261, 3) := by decide +kernel
theorem dX9_digest_114 : decode cX9_digest 114 = .ok (.lreturn, 1) := by decide +kernel
