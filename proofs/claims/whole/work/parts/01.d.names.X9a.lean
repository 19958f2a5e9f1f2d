theorem dX9_init_0 : decode cX9_init 0 = .ok (.aload_n 0, 1) := by decide +kernel
theorem dX9_init_1 : decode cX9_init 1 = .ok (.invokespecial 1, 3) := by decide +kernel
theorem dX9_init_4 : decode cX9_init 4 = .ok (.aload_n 0, 1) := by decide +kernel
theorem dX9_init_5 : decode cX9_init 5 = .ok (.bipush 32, 2) := by decide +kernel
theorem dX9_init_7 : decode cX9_init 7 = .ok (.newarray .int, 2) := by decide +kernel
theorem dX9_init_9 : decode cX9_init 9 = .ok (.putfield 7, 3) := by decide +kernel
theorem dX9_init_12 : decode cX9_init 12 = .ok (.aload_n 0, 1) := by decide +kernel
theorem dX9_init_13 : decode cX9_init 13 = .ok (.bipush 7, 2) := by decide +kernel
theorem dX9_init_15 : decode cX9_init 15 = .ok (.newarray .int, 2) := by decide +kernel
theorem dX9_init_17 : decode cX9_init 17 = .ok (.putfield 13, 3) := by decide +kernel
theorem dX9_init_20 : decode cX9_init 20 = .ok (.aload_n 0, 1) := by decide +kernel
theorem dX9_init_21 : decode cX9_init 21 = .ok (.bipush 7, 2) := by decide +kernel
theorem dX9_init_23 : decode cX9_init 23 = .ok (.newarray .int, 2) := by decide +kernel
theorem dX9_init_25 : decode cX9_init 25 = .ok (.putfield 16, 3) := by decide +kernel
theorem dX9_init_28 : decode cX9_init 28 = .ok (.aload_n 0, 1) := by decide +kernel
theorem dX9_init_29 : decode cX9_init 29 = .ok (.bipush 7, 2) := by decide +kernel
theorem dX9_init_31 : decode cX9_init 31 = .ok (.newarray .int, 2) := by decide +kernel
theorem dX9_init_33 : decode cX9_init 33 = .ok (.putfield 19, 3) := by decide +kernel
theorem dX9_init_36 : decode cX9_init 36 = .ok (.aload_n 0, 1) := by decide +kernel
theorem dX9_init_37 : decode cX9_init 37 = .ok (.bipush 7, 2) := by decide +kernel
theorem dX9_init_39 : decode cX9_init 39 = .ok (.newarray .int, 2) := by decide +kernel
theorem dX9_init_41 : decode cX9_init 41 = .ok (.putfield 22, 3) := by decide +kernel
theorem dX9_init_44 : decode cX9_init 44 = .ok (.aload_n 0, 1) := by decide +kernel
theorem dX9_init_45 : decode cX9_init 45 = .ok (.bipush 7, 2) := by decide +kernel
theorem dX9_init_47 : decode cX9_init 47 = .ok (.newarray .int, 2) := by decide +kernel
theorem dX9_init_49 : decode cX9_init 49 = .ok (.putfield 25, 3) := by decide +kernel
theorem dX9_init_52 : decode cX9_init 52 = .ok (.aload_n 0, 1) := by decide +kernel
theorem dX9_init_53 : decode cX9_init 53 = .ok (.bipush 7, 2) := by decide +kernel
theorem dX9_init_55 : decode cX9_init 55 = .ok (.newarray .int, 2) := by decide +kernel
theorem dX9_init_57 : decode cX9_init 57 = .ok (.putfield 28, 3) := by decide +kernel
theorem dX9_init_60 : decode cX9_init 60 = .ok (.aload_n 0, 1) := by decide +kernel
theorem dX9_init_61 : decode cX9_init 61 = .ok (.bipush 7, 2) := by decide +kernel
theorem dX9_init_63 : decode cX9_init 63 = .ok (.newarray .int, 2) := by decide +kernel
theorem dX9_init_65 : decode cX9_init 65 = .ok (.putfield 31, 3) := by decide +kernel
theorem dX9_init_68 : decode cX9_init 68 = .ok (.aload_n 0, 1) := by decide +kernel
theorem dX9_init_69 : decode cX9_init 69 = .ok (.bipush 7, 2) := by decide +kernel
theorem dX9_init_71 : decode cX9_init 71 = .ok (.newarray .int, 2) := by decide +kernel
theorem dX9_init_73 : decode cX9_init 73 = .ok (.putfield 34, 3) := by decide +kernel
theorem dX9_init_76 : decode cX9_init 76 = .ok (.aload_n 0, 1) := by decide +kernel
theorem dX9_init_77 : decode cX9_init 77 = .ok (.sipush 1024, 3) := by decide +kernel
theorem dX9_init_80 : decode cX9_init 80 = .ok (.newarray .int, 2) := by decide +kernel
theorem dX9_init_82 : decode cX9_init 82 = .ok (.putfield 37, 3) := by decide +kernel
theorem dX9_init_85 : decode cX9_init 85 = .ok (.aload_n 0, 1) := by decide +kernel
theorem dX9_init_86 : decode cX9_init 86 = .ok (.bipush 18, 2) := by decide +kernel
theorem dX9_init_88 : decode cX9_init 88 = .ok (.newarray .int, 2) := by decide +kernel
theorem dX9_init_90 : decode cX9_init 90 = .ok (.putfield 40, 3) := by decide +kernel
theorem dX9_init_93 : decode cX9_init 93 = .ok (.aload_n 0, 1) := by decide +kernel
theorem dX9_init_94 : decode cX9_init 94 = .ok (.bipush 7, 2) := by decide +kernel
theorem dX9_init_96 : decode cX9_init 96 = .ok (.newarray .int, 2) := by decide +kernel
theorem dX9_init_98 : decode cX9_init 98 = .ok (.putfield 43, 3) := by decide +kernel
theorem dX9_init_101 : decode cX9_init 101 = .ok (.aload_n 0, 1) := by decide +kernel
theorem dX9_init_102 : decode cX9_init 102 = .ok (.bipush 7, 2) := by decide +kernel
theorem dX9_init_104 : decode cX9_init 104 = .ok (.newarray .int, 2) := by decide +kernel
theorem dX9_init_106 : decode cX9_init 106 = .ok (.putfield 46, 3) := by decide +kernel
theorem dX9_init_109 : decode cX9_init 109 = .ok (.aload_n 0, 1) := by decide +kernel
theorem dX9_init_110 : decode cX9_init 110 = .ok (.bipush 7, 2) := by decide +kernel
theorem dX9_init_112 : decode cX9_init 112 = .ok (.newarray .int, 2) := by decide +kernel
theorem dX9_init_114 : decode cX9_init 114 = .ok (.putfield 49, 3) := by decide +kernel
theorem dX9_init_117 : decode cX9_init 117 = .ok (.aload_n 0, 1) := by decide +kernel
theorem dX9_init_118 : decode cX9_init 118 = .ok (.bipush 7, 2) := by decide +kernel
theorem dX9_init_120 : decode cX9_init 120 = .ok (.newarray .int, 2) := by decide +kernel
theorem dX9_init_122 : decode cX9_init 122 = .ok (.putfield 52, 3) := by decide +kernel
theorem dX9_init_125 : decode cX9_init 125 = .ok (.aload_n 0, 1) := by decide +kernel
theorem dX9_init_126 : decode cX9_init 126 = .ok (.bipush 7, 2) := by decide +kernel
theorem dX9_init_128 : decode cX9_init 128 = .ok (.newarray .int, 2) := by decide +kernel
theorem dX9_init_130 : decode cX9_init 130 = .ok (.putfield 55, 3) := by decide +kernel
theorem dX9_init_133 : decode cX9_init 133 = .ok (.aload_n 0, 1) := by decide +kernel
theorem dX9_init_134 : decode cX9_init 134 = .ok (.bipush 18, 2) := by decide +kernel
theorem dX9_init_136 : decode cX9_init 136 = .ok (.newarray .int, 2) := by decide +kernel
theorem dX9_init_138 : decode cX9_init 138 = .ok (.putfield 58, 3) := by decide +kernel
theorem dX9_init_141 : decode cX9_init 141 = .ok (.aload_n 0, 1) := by decide +kernel
theorem dX9_init_142 : decode cX9_init 142 = .ok (.iconst (-1), 1) := by decide +kernel
theorem dX9_init_143 : decode cX9_init 143 = .ok (.putfield 61, 3) := by decide +kernel
theorem dX9_init_146 : decode cX9_init 146 = .ok (.return_, 1) := by decide +kernel
theorem dX9_in_0 : decode cX9_in 0 = .ok (.lload_n 0, 1) := by decide +kernel
theorem dX9_in_1 : decode cX9_in 1 = .ok (.lload_n 2, 1) := by decide +kernel
theorem dX9_in_2 : decode cX9_in 2 = .ok (.lcmp, 1) := by decide +kernel
theorem dX9_in_3 : decode cX9_in 3 = .ok (.ifCond .lt 14, 3) := by decide +kernel
theorem dX9_in_6 : decode cX9_in 6 = .ok (.lload_n 0, 1) := by decide +kernel
theorem dX9_in_7 : decode cX9_in 7 = .ok (.lload 4, 2) := by decide +kernel
theorem dX9_in_9 : decode cX9_in 9 = .ok (.lcmp, 1) := by decide +kernel
theorem dX9_in_10 : decode cX9_in 10 = .ok (.ifCond .gt 7, 3) := by decide +kernel
theorem dX9_in_13 : decode cX9_in 13 = .ok (.iconst 1, 1) := by decide +kernel
theorem dX9_in_14 : decode cX9_in 14 = .ok (.goto 4, 3) := by decide +kernel
theorem dX9_in_17 : decode cX9_in 17 = .ok (.iconst 0, 1) := by decide +kernel
theorem dX9_in_18 : decode cX9_in 18 = .ok (.ireturn, 1) := by decide +kernel
theorem dX9_copy_0 : decode cX9_copy 0 = .ok (.iconst 0, 1) := by decide +kernel
theorem dX9_copy_1 : decode cX9_copy 1 = .ok (.istore_n 2, 1) := by decide +kernel
theorem dX9_copy_2 : decode cX9_copy 2 = .ok (.iload_n 2, 1) := by decide +kernel
theorem dX9_copy_3 : decode cX9_copy 3 = .ok (.aload_n 0, 1) := by decide +kernel
theorem dX9_copy_4 : decode cX9_copy 4 = .ok (.arraylength, 1) := by decide +kernel
theorem dX9_copy_5 : decode cX9_copy 5 = .ok (.if_icmp .ge 15, 3) := by decide +kernel
theorem dX9_copy_8 : decode cX9_copy 8 = .ok (.aload_n 1, 1) := by decide +kernel
theorem dX9_copy_9 : decode cX9_copy 9 = .ok (.iload_n 2, 1) := by decide +kernel
theorem dX9_copy_10 : decode cX9_copy 10 = .ok (.aload_n 0, 1) := by decide +kernel
theorem dX9_copy_11 : decode cX9_copy 11 = .ok (.iload_n 2, 1) := by decide +kernel
theorem dX9_copy_12 : decode cX9_copy 12 = .ok (.iaload, 1) := by decide +kernel
theorem dX9_copy_13 : decode cX9_copy 13 = .ok (.iastore, 1) := by decide +kernel
theorem dX9_copy_14 : decode cX9_copy 14 = .ok (.iinc 2 1, 3) := by decide +kernel
theorem dX9_copy_17 : decode cX9_copy 17 = .ok (.goto (-15), 3) := by decide +kernel
theorem dX9_copy_20 : decode cX9_copy 20 = .ok (.return_, 1) := by decide +kernel
set_option maxRecDepth 20000 in
theorem ggX9_letter_X9_in : GoodIn wsX9_letter wsX9_in := goodIn_r _ [7] (by decide +kernel) (by decide +kernel)
set_option maxRecDepth 20000 in
theorem gX9_letter_X9_in : GoodIn wsX9_letter (va_wsS RX9 67 yX9_in wsX9_in) := goodIn_app (goodIn_of _ (by decide +kernel)) ggX9_letter_X9_in
theorem dX9_letter_0 : decode cX9_letter 0 = .ok (.iload_n 1, 1) := by decide +kernel
theorem dX9_letter_1 : decode cX9_letter 1 = .ok (.i2l, 1) := by decide +kernel
theorem dX9_letter_2 : decode cX9_letter 2 = .ok (.lconst 1, 1) := by decide +kernel
theorem dX9_letter_3 : decode cX9_letter 3 = .ok (.ldc2_w 65, 3) := by decide +kernel
theorem dX9_letter_6 : decode cX9_letter 6 = .ok (.invokestatic 67, 3) := by decide +kernel
theorem dX9_letter_9 : decode cX9_letter 9 = .ok (.ifCond .ne 6, 3) := by decide +kernel
theorem dX9_letter_12 : decode cX9_letter 12 = .ok (.bipush (-102), 2) := by decide +kernel
theorem dX9_letter_14 : decode cX9_letter 14 = .ok (.ireturn, 1) := by decide +kernel
theorem dX9_letter_15 : decode cX9_letter 15 = .ok (.aload_n 0, 1) := by decide +kernel
theorem dX9_letter_16 : decode cX9_letter 16 = .ok (.getfield 71, 3) := by decide +kernel
theorem dX9_letter_19 : decode cX9_letter 19 = .ok (.bipush 32, 2) := by decide +kernel
theorem dX9_letter_21 : decode cX9_letter 21 = .ok (.if_icmp .ne 6, 3) := by decide +kernel
theorem dX9_letter_24 : decode cX9_letter 24 = .ok (.bipush (-104), 2) := by decide +kernel
theorem dX9_letter_26 : decode cX9_letter 26 = .ok (.ireturn, 1) := by decide +kernel
theorem dX9_letter_27 : decode cX9_letter 27 = .ok (.aload_n 0, 1) := by decide +kernel
theorem dX9_letter_28 : decode cX9_letter 28 = .ok (.getfield 7, 3) := by decide +kernel
theorem dX9_letter_31 : decode cX9_letter 31 = .ok (.aload_n 0, 1) := by decide +kernel
theorem dX9_letter_32 : decode cX9_letter 32 = .ok (.getfield 71, 3) := by decide +kernel
theorem dX9_letter_35 : decode cX9_letter 35 = .ok (.iload_n 1, 1) := by decide +kernel
theorem dX9_letter_36 : decode cX9_letter 36 = .ok (.iastore, 1) := by decide +kernel
theorem dX9_letter_37 : decode cX9_letter 37 = .ok (.aload_n 0, 1) := by decide +kernel
theorem dX9_letter_38 : decode cX9_letter 38 = .ok (.dup, 1) := by decide +kernel
theorem dX9_letter_39 : decode cX9_letter 39 = .ok (.getfield 71, 3) := by decide +kernel
theorem dX9_letter_42 : decode cX9_letter 42 = .ok (.iconst 1, 1) := by decide +kernel
theorem dX9_letter_43 : decode cX9_letter 43 = .ok (.iadd, 1) := by decide +kernel
theorem dX9_letter_44 : decode cX9_letter 44 = .ok (.putfield 71, 3) := by decide +kernel
theorem dX9_letter_47 : decode cX9_letter 47 = .ok (.aload_n 0, 1) := by decide +kernel
theorem dX9_letter_48 : decode cX9_letter 48 = .ok (.getfield 71, 3) := by decide +kernel
theorem dX9_letter_51 : decode cX9_letter 51 = .ok (.ireturn, 1) := by decide +kernel
theorem dX9_blank_0 : decode cX9_blank 0 = .ok (.aload_n 0, 1) := by decide +kernel
theorem dX9_blank_1 : decode cX9_blank 1 = .ok (.getfield 71, 3) := by decide +kernel
theorem dX9_blank_4 : decode cX9_blank 4 = .ok (.istore_n 1, 1) := by decide +kernel
theorem dX9_blank_5 : decode cX9_blank 5 = .ok (.aload_n 0, 1) := by decide +kernel
theorem dX9_blank_6 : decode cX9_blank 6 = .ok (.iconst 0, 1) := by decide +kernel
theorem dX9_blank_7 : decode cX9_blank 7 = .ok (.putfield 71, 3) := by decide +kernel
theorem dX9_blank_10 : decode cX9_blank 10 = .ok (.iload_n 1, 1) := by decide +kernel
theorem dX9_blank_11 : decode cX9_blank 11 = .ok (.ireturn, 1) := by decide +kernel
theorem dX9_kindBy_0 : decode cX9_kindBy 0 = .ok (.iload_n 0, 1) := by decide +kernel
theorem dX9_kindBy_1 : decode cX9_kindBy 1 = .ok (.lookupswitch 61 #[(99, 53), (112, 57), (115, 59), (116, 51), (117, 55)], 51) := by decide +kernel
theorem dX9_kindBy_52 : decode cX9_kindBy 52 = .ok (.iconst 0, 1) := by decide +kernel
theorem dX9_kindBy_53 : decode cX9_kindBy 53 = .ok (.ireturn, 1) := by decide +kernel
theorem dX9_kindBy_54 : decode cX9_kindBy 54 = .ok (.iconst 1, 1) := by decide +kernel
theorem dX9_kindBy_55 : decode cX9_kindBy 55 = .ok (.ireturn, 1) := by decide +kernel
theorem dX9_kindBy_56 : decode cX9_kindBy 56 = .ok (.iconst 2, 1) := by decide +kernel
theorem dX9_kindBy_57 : decode cX9_kindBy 57 = .ok (.ireturn, 1) := by decide +kernel
theorem dX9_kindBy_58 : decode cX9_kindBy 58 = .ok (.iconst 3, 1) := by decide +kernel
theorem dX9_kindBy_59 : decode cX9_kindBy 59 = .ok (.ireturn, 1) := by decide +kernel
theorem dX9_kindBy_60 : decode cX9_kindBy 60 = .ok (.iconst 4, 1) := by decide +kernel
theorem dX9_kindBy_61 : decode cX9_kindBy 61 = .ok (.ireturn, 1) := by decide +kernel
theorem dX9_kindBy_62 : decode cX9_kindBy 62 = .ok (.iconst (-1), 1) := by decide +kernel
theorem dX9_kindBy_63 : decode cX9_kindBy 63 = .ok (.ireturn, 1) := by decide +kernel
set_option maxRecDepth 20000 in
theorem ggX9_isGood_X9_in : GoodIn wsX9_isGood wsX9_in := goodIn_r _ [9] (by decide +kernel) (by decide +kernel)
set_option maxRecDepth 20000 in
theorem gX9_isGood_X9_in : GoodIn wsX9_isGood (va_wsS RX9 67 yX9_in wsX9_in) := goodIn_app (goodIn_of _ (by decide +kernel)) ggX9_isGood_X9_in
set_option maxRecDepth 20000 in
theorem ggX9_isGood_X9_kindBy : GoodIn wsX9_isGood wsX9_kindBy := goodIn_r _ [12] (by decide +kernel) (by decide +kernel)
set_option maxRecDepth 20000 in
theorem gX9_isGood_X9_kindBy : GoodIn wsX9_isGood (va_wsS RX9 81 yX9_kindBy wsX9_kindBy) := goodIn_app (goodIn_of _ (by decide +kernel)) ggX9_isGood_X9_kindBy
theorem dX9_isGood_0 : decode cX9_isGood 0 = .ok (.aload_n 0, 1) := by decide +kernel
theorem dX9_isGood_1 : decode cX9_isGood 1 = .ok (.getfield 7, 3) := by decide +kernel
theorem dX9_isGood_4 : decode cX9_isGood 4 = .ok (.iload_n 1, 1) := by decide +kernel
theorem dX9_isGood_5 : decode cX9_isGood 5 = .ok (.iaload, 1) := by decide +kernel
theorem dX9_isGood_6 : decode cX9_isGood 6 = .ok (.istore_n 2, 1) := by decide +kernel
theorem dX9_isGood_7 : decode cX9_isGood 7 = .ok (.aload_n 0, 1) := by decide +kernel
theorem dX9_isGood_8 : decode cX9_isGood 8 = .ok (.getfield 74, 3) := by decide +kernel
theorem dX9_isGood_11 : decode cX9_isGood 11 = .ok (.ifCond .le 33, 3) := by decide +kernel
theorem dX9_isGood_14 : decode cX9_isGood 14 = .ok (.iload_n 1, 1) := by decide +kernel
theorem dX9_isGood_15 : decode cX9_isGood 15 = .ok (.aload_n 0, 1) := by decide +kernel
theorem dX9_isGood_16 : decode cX9_isGood 16 = .ok (.getfield 74, 3) := by decide +kernel
theorem dX9_isGood_19 : decode cX9_isGood 19 = .ok (.iconst 3, 1) := by decide +kernel
theorem dX9_isGood_20 : decode cX9_isGood 20 = .ok (.iadd, 1) := by decide +kernel
theorem dX9_isGood_21 : decode cX9_isGood 21 = .ok (.if_icmp .ge 21, 3) := by decide +kernel
theorem dX9_isGood_24 : decode cX9_isGood 24 = .ok (.iload_n 2, 1) := by decide +kernel
theorem dX9_isGood_25 : decode cX9_isGood 25 = .ok (.i2l, 1) := by decide +kernel
theorem dX9_isGood_26 : decode cX9_isGood 26 = .ok (.ldc2_w 77, 3) := by decide +kernel
theorem dX9_isGood_29 : decode cX9_isGood 29 = .ok (.ldc2_w 79, 3) := by decide +kernel
theorem dX9_isGood_32 : decode cX9_isGood 32 = .ok (.invokestatic 67, 3) := by decide +kernel
theorem dX9_isGood_35 : decode cX9_isGood 35 = .ok (.ifCond .eq 7, 3) := by decide +kernel
theorem dX9_isGood_38 : decode cX9_isGood 38 = .ok (.iconst 1, 1) := by decide +kernel
theorem dX9_isGood_39 : decode cX9_isGood 39 = .ok (.goto 4, 3) := by decide +kernel
theorem dX9_isGood_42 : decode cX9_isGood 42 = .ok (.iconst 0, 1) := by decide +kernel
theorem dX9_isGood_43 : decode cX9_isGood 43 = .ok (.ireturn, 1) := by decide +kernel
theorem dX9_isGood_44 : decode cX9_isGood 44 = .ok (.iload_n 1, 1) := by decide +kernel
theorem dX9_isGood_45 : decode cX9_isGood 45 = .ok (.iconst 4, 1) := by decide +kernel
theorem dX9_isGood_46 : decode cX9_isGood 46 = .ok (.irem, 1) := by decide +kernel
theorem dX9_isGood_47 : decode cX9_isGood 47 = .ok (.tableswitch 63 0 2 #[25, 39, 51], 25) := by decide +kernel
theorem dX9_isGood_72 : decode cX9_isGood 72 = .ok (.iload_n 2, 1) := by decide +kernel
theorem dX9_isGood_73 : decode cX9_isGood 73 = .ok (.invokestatic 81, 3) := by decide +kernel
theorem dX9_isGood_76 : decode cX9_isGood 76 = .ok (.iconst (-1), 1) := by decide +kernel
theorem dX9_isGood_77 : decode cX9_isGood 77 = .ok (.if_icmp .eq 7, 3) := by decide +kernel
theorem dX9_isGood_80 : decode cX9_isGood 80 = .ok (.iconst 1, 1) := by decide +kernel
theorem dX9_isGood_81 : decode cX9_isGood 81 = .ok (.goto 4, 3) := by decide +kernel
theorem dX9_isGood_84 : decode cX9_isGood 84 = .ok (.iconst 0, 1) := by decide +kernel
theorem dX9_isGood_85 : decode cX9_isGood 85 = .ok (.ireturn, 1) := by decide +kernel
theorem dX9_isGood_86 : decode cX9_isGood 86 = .ok (.iload_n 2, 1) := by decide +kernel
theorem dX9_isGood_87 : decode cX9_isGood 87 = .ok (.i2l, 1) := by decide +kernel
theorem dX9_isGood_88 : decode cX9_isGood 88 = .ok (.ldc2_w 85, 3) := by decide +kernel
theorem dX9_isGood_91 : decode cX9_isGood 91 = .ok (.ldc2_w 79, 3) := by decide +kernel
theorem dX9_isGood_94 : decode cX9_isGood 94 = .ok (.invokestatic 67, 3) := by decide +kernel
theorem dX9_isGood_97 : decode cX9_isGood 97 = .ok (.ireturn, 1) := by decide +kernel
theorem dX9_isGood_98 : decode cX9_isGood 98 = .ok (.iload_n 2, 1) := by decide +kernel
theorem dX9_isGood_99 : decode cX9_isGood 99 = .ok (.i2l, 1) := by decide +kernel
theorem dX9_isGood_100 : decode cX9_isGood 100 = .ok (.ldc2_w 77, 3) := by decide +kernel
theorem dX9_isGood_103 : decode cX9_isGood 103 = .ok (.ldc2_w 79, 3) := by decide +kernel
theorem dX9_isGood_106 : decode cX9_isGood 106 = .ok (.invokestatic 67, 3) := by decide +kernel
theorem dX9_isGood_109 : decode cX9_isGood 109 = .ok (.ireturn, 1) := by decide +kernel
theorem dX9_isGood_110 : decode cX9_isGood 110 = .ok (.iload_n 2, 1) := by decide +kernel
theorem dX9_isGood_111 : decode cX9_isGood 111 = .ok (.bipush 59, 2) := by decide +kernel
theorem dX9_isGood_113 : decode cX9_isGood 113 = .ok (.if_icmp .ne 15, 3) := by decide +kernel
theorem dX9_isGood_116 : decode cX9_isGood 116 = .ok (.iload_n 1, 1) := by decide +kernel
theorem dX9_isGood_117 : decode cX9_isGood 117 = .ok (.iconst 3, 1) := by decide +kernel
theorem dX9_isGood_118 : decode cX9_isGood 118 = .ok (.if_icmp .le 10, 3) := by decide +kernel
theorem dX9_isGood_121 : decode cX9_isGood 121 = .ok (.aload_n 0, 1) := by decide +kernel
theorem dX9_isGood_122 : decode cX9_isGood 122 = .ok (.iload_n 1, 1) := by decide +kernel
theorem dX9_isGood_123 : decode cX9_isGood 123 = .ok (.putfield 74, 3) := by decide +kernel
theorem dX9_isGood_126 : decode cX9_isGood 126 = .ok (.iconst 1, 1) := by decide +kernel
theorem dX9_isGood_127 : decode cX9_isGood 127 = .ok (.ireturn, 1) := by decide +kernel
theorem dX9_isGood_128 : decode cX9_isGood 128 = .ok (.iload_n 2, 1) := by decide +kernel
theorem dX9_isGood_129 : decode cX9_isGood 129 = .ok (.bipush 44, 2) := by decide +kernel
theorem dX9_isGood_131 : decode cX9_isGood 131 = .ok (.if_icmp .ne 13, 3) := by decide +kernel
theorem dX9_isGood_134 : decode cX9_isGood 134 = .ok (.iload_n 1, 1) := by decide +kernel
theorem dX9_isGood_135 : decode cX9_isGood 135 = .ok (.bipush 27, 2) := by decide +kernel
theorem dX9_isGood_137 : decode cX9_isGood 137 = .ok (.if_icmp .ge 7, 3) := by decide +kernel
theorem dX9_isGood_140 : decode cX9_isGood 140 = .ok (.iconst 1, 1) := by decide +kernel
theorem dX9_isGood_141 : decode cX9_isGood 141 = .ok (.goto 4, 3) := by decide +kernel
theorem dX9_isGood_144 : decode cX9_isGood 144 = .ok (.iconst 0, 1) := by decide +kernel
theorem dX9_isGood_145 : decode cX9_isGood 145 = .ok (.ireturn, 1) := by decide +kernel
set_option maxRecDepth 20000 in
theorem ggX9_faultOf_X9_isGood : GoodIn wsX9_faultOf wsX9_isGood := goodIn_r _ [7, 8, 1, 9, 10, 11, 12, 13, 6, 14, 15, 16, 17, 18, 19, 20, 21, 22, 23, 24, 25, 26, 27, 28, 29, 30, 31, 32, 33, 34, 35, 36, 37, 38, 39, 40, 41, 42, 43, 44, 45, 46, 47, 48, 49, 50, 51] (by decide +kernel) (by decide +kernel)
set_option maxRecDepth 20000 in
theorem gX9_faultOf_X9_isGood : GoodIn wsX9_faultOf (wsV RX9 87 RX9 yX9_isGood wsX9_isGood) := goodIn_app (goodIn_of _ (by decide +kernel)) ggX9_faultOf_X9_isGood
theorem dX9_faultOf_0 : decode cX9_faultOf 0 = .ok (.aload_n 0, 1) := by decide +kernel
theorem dX9_faultOf_1 : decode cX9_faultOf 1 = .ok (.iconst 0, 1) := by decide +kernel
theorem dX9_faultOf_2 : decode cX9_faultOf 2 = .ok (.putfield 74, 3) := by decide +kernel
theorem dX9_faultOf_5 : decode cX9_faultOf 5 = .ok (.iconst 0, 1) := by decide +kernel
theorem dX9_faultOf_6 : decode cX9_faultOf 6 = .ok (.istore_n 1, 1) := by decide +kernel
theorem dX9_faultOf_7 : decode cX9_faultOf 7 = .ok (.iload_n 1, 1) := by decide +kernel
theorem dX9_faultOf_8 : decode cX9_faultOf 8 = .ok (.aload_n 0, 1) := by decide +kernel
theorem dX9_faultOf_9 : decode cX9_faultOf 9 = .ok (.getfield 71, 3) := by decide +kernel
theorem dX9_faultOf_12 : decode cX9_faultOf 12 = .ok (.if_icmp .ge 17, 3) := by decide +kernel
theorem dX9_faultOf_15 : decode cX9_faultOf 15 = .ok (.aload_n 0, 1) := by decide +kernel
theorem dX9_faultOf_16 : decode cX9_faultOf 16 = .ok (.iload_n 1, 1) := by decide +kernel
theorem dX9_faultOf_17 : decode cX9_faultOf 17 = .ok (.invokevirtual 87, 3) := by decide +kernel
theorem dX9_faultOf_20 : decode cX9_faultOf 20 = .ok (.ifCond .eq 9, 3) := by decide +kernel
theorem dX9_faultOf_23 : decode cX9_faultOf 23 = .ok (.iinc 1 1, 3) := by decide +kernel
theorem dX9_faultOf_26 : decode cX9_faultOf 26 = .ok (.goto (-19), 3) := by decide +kernel
theorem dX9_faultOf_29 : decode cX9_faultOf 29 = .ok (.iload_n 1, 1) := by decide +kernel
theorem dX9_faultOf_30 : decode cX9_faultOf 30 = .ok (.ireturn, 1) := by decide +kernel
set_option maxRecDepth 20000 in
theorem ggX9_fault_X9_faultOf : GoodIn wsX9_fault wsX9_faultOf := goodIn_r _ [5, 6, 7, 8, 9, 10, 4, 11, 12, 13, 14, 15, 16, 17, 18, 19, 20, 21, 22, 23, 24, 25, 26, 27, 28, 29, 30, 31, 32, 33, 34, 35, 36, 37, 38, 39, 40, 41, 42, 43, 44, 45, 46, 47, 48, 49, 50, 51, 52, 53, 54, 55] (by decide +kernel) (by decide +kernel)
set_option maxRecDepth 20000 in
theorem gX9_fault_X9_faultOf : GoodIn wsX9_fault (wsV RX9 91 RX9 yX9_faultOf wsX9_faultOf) := goodIn_app (goodIn_of _ (by decide +kernel)) ggX9_fault_X9_faultOf
theorem dX9_fault_0 : decode cX9_fault 0 = .ok (.aload_n 0, 1) := by decide +kernel
theorem dX9_fault_1 : decode cX9_fault 1 = .ok (.invokevirtual 91, 3) := by decide +kernel
theorem dX9_fault_4 : decode cX9_fault 4 = .ok (.ireturn, 1) := by decide +kernel
set_option maxRecDepth 20000 in
theorem ggX9_house_X9_faultOf : GoodIn wsX9_house wsX9_faultOf := goodIn_r _ [19, 2, 1, 20, 21, 22, 18, 23, 5, 24, 25, 26, 27, 28, 29, 30, 31, 32, 33, 34, 35, 36, 37, 38, 39, 40, 41, 42, 43, 44, 45, 46, 47, 48, 49, 50, 51, 52, 53, 54, 55, 56, 57, 58, 59, 60, 61, 62, 63, 64, 65, 66] (by decide +kernel) (by decide +kernel)
set_option maxRecDepth 20000 in
theorem gX9_house_X9_faultOf : GoodIn wsX9_house (wsV RX9 91 RX9 yX9_faultOf wsX9_faultOf) := goodIn_app (goodIn_of _ (by decide +kernel)) ggX9_house_X9_faultOf
set_option maxRecDepth 20000 in
theorem ggX9_house_X9_kindBy : GoodIn wsX9_house wsX9_kindBy := goodIn_r _ [32] (by decide +kernel) (by decide +kernel)
set_option maxRecDepth 20000 in
theorem gX9_house_X9_kindBy : GoodIn wsX9_house (va_wsS RX9 81 yX9_kindBy wsX9_kindBy) := goodIn_app (goodIn_of _ (by decide +kernel)) ggX9_house_X9_kindBy
theorem dX9_house_0 : decode cX9_house 0 = .ok (.aload_n 0, 1) := by decide +kernel
theorem dX9_house_1 : decode cX9_house 1 = .ok (.invokevirtual 91, 3) := by decide +kernel
theorem dX9_house_4 : decode cX9_house 4 = .ok (.aload_n 0, 1) := by decide +kernel
theorem dX9_house_5 : decode cX9_house 5 = .ok (.getfield 71, 3) := by decide +kernel
theorem dX9_house_8 : decode cX9_house 8 = .ok (.if_icmp .lt 23, 3) := by decide +kernel
theorem dX9_house_11 : decode cX9_house 11 = .ok (.aload_n 0, 1) := by decide +kernel
theorem dX9_house_12 : decode cX9_house 12 = .ok (.getfield 74, 3) := by decide +kernel
theorem dX9_house_15 : decode cX9_house 15 = .ok (.ifCond .eq 16, 3) := by decide +kernel
theorem dX9_house_18 : decode cX9_house 18 = .ok (.aload_n 0, 1) := by decide +kernel
theorem dX9_house_19 : decode cX9_house 19 = .ok (.getfield 71, 3) := by decide +kernel
theorem dX9_house_22 : decode cX9_house 22 = .ok (.aload_n 0, 1) := by decide +kernel
theorem dX9_house_23 : decode cX9_house 23 = .ok (.getfield 74, 3) := by decide +kernel
theorem dX9_house_26 : decode cX9_house 26 = .ok (.iconst 3, 1) := by decide +kernel
theorem dX9_house_27 : decode cX9_house 27 = .ok (.iadd, 1) := by decide +kernel
theorem dX9_house_28 : decode cX9_house 28 = .ok (.if_icmp .eq 6, 3) := by decide +kernel
theorem dX9_house_31 : decode cX9_house 31 = .ok (.bipush (-103), 2) := by decide +kernel
theorem dX9_house_33 : decode cX9_house 33 = .ok (.ireturn, 1) := by decide +kernel
theorem dX9_house_34 : decode cX9_house 34 = .ok (.aload_n 0, 1) := by decide +kernel
theorem dX9_house_35 : decode cX9_house 35 = .ok (.aload_n 0, 1) := by decide +kernel
theorem dX9_house_36 : decode cX9_house 36 = .ok (.getfield 74, 3) := by decide +kernel
theorem dX9_house_39 : decode cX9_house 39 = .ok (.iconst 1, 1) := by decide +kernel
theorem dX9_house_40 : decode cX9_house 40 = .ok (.iadd, 1) := by decide +kernel
theorem dX9_house_41 : decode cX9_house 41 = .ok (.iconst 4, 1) := by decide +kernel
theorem dX9_house_42 : decode cX9_house 42 = .ok (.idiv, 1) := by decide +kernel
theorem dX9_house_43 : decode cX9_house 43 = .ok (.putfield 95, 3) := by decide +kernel
theorem dX9_house_46 : decode cX9_house 46 = .ok (.iconst 0, 1) := by decide +kernel
theorem dX9_house_47 : decode cX9_house 47 = .ok (.istore_n 1, 1) := by decide +kernel
theorem dX9_house_48 : decode cX9_house 48 = .ok (.iload_n 1, 1) := by decide +kernel
theorem dX9_house_49 : decode cX9_house 49 = .ok (.aload_n 0, 1) := by decide +kernel
theorem dX9_house_50 : decode cX9_house 50 = .ok (.getfield 95, 3) := by decide +kernel
theorem dX9_house_53 : decode cX9_house 53 = .ok (.if_icmp .ge 78, 3) := by decide +kernel
theorem dX9_house_56 : decode cX9_house 56 = .ok (.aload_n 0, 1) := by decide +kernel
theorem dX9_house_57 : decode cX9_house 57 = .ok (.getfield 13, 3) := by decide +kernel
theorem dX9_house_60 : decode cX9_house 60 = .ok (.iload_n 1, 1) := by decide +kernel
theorem dX9_house_61 : decode cX9_house 61 = .ok (.aload_n 0, 1) := by decide +kernel
theorem dX9_house_62 : decode cX9_house 62 = .ok (.getfield 7, 3) := by decide +kernel
theorem dX9_house_65 : decode cX9_house 65 = .ok (.iconst 4, 1) := by decide +kernel
theorem dX9_house_66 : decode cX9_house 66 = .ok (.iload_n 1, 1) := by decide +kernel
theorem dX9_house_67 : decode cX9_house 67 = .ok (.imul, 1) := by decide +kernel
theorem dX9_house_68 : decode cX9_house 68 = .ok (.iaload, 1) := by decide +kernel
theorem dX9_house_69 : decode cX9_house 69 = .ok (.invokestatic 81, 3) := by decide +kernel
theorem dX9_house_72 : decode cX9_house 72 = .ok (.iastore, 1) := by decide +kernel
theorem dX9_house_73 : decode cX9_house 73 = .ok (.aload_n 0, 1) := by decide +kernel
theorem dX9_house_74 : decode cX9_house 74 = .ok (.getfield 16, 3) := by decide +kernel
theorem dX9_house_77 : decode cX9_house 77 = .ok (.iload_n 1, 1) := by decide +kernel
theorem dX9_house_78 : decode cX9_house 78 = .ok (.aload_n 0, 1) := by decide +kernel
theorem dX9_house_79 : decode cX9_house 79 = .ok (.getfield 7, 3) := by decide +kernel
theorem dX9_house_82 : decode cX9_house 82 = .ok (.iconst 4, 1) := by decide +kernel
theorem dX9_house_83 : decode cX9_house 83 = .ok (.iload_n 1, 1) := by decide +kernel
theorem dX9_house_84 : decode cX9_house 84 = .ok (.imul, 1) := by decide +kernel
theorem dX9_house_85 : decode cX9_house 85 = .ok (.iconst 1, 1) := by decide +kernel
theorem dX9_house_86 : decode cX9_house 86 = .ok (.iadd, 1) := by decide +kernel
theorem dX9_house_87 : decode cX9_house 87 = .ok (.iaload, 1) := by decide +kernel
theorem dX9_house_88 : decode cX9_house 88 = .ok (.bipush 48, 2) := by decide +kernel
theorem dX9_house_90 : decode cX9_house 90 = .ok (.isub, 1) := by decide +kernel
theorem dX9_house_91 : decode cX9_house 91 = .ok (.iastore, 1) := by decide +kernel
theorem dX9_house_92 : decode cX9_house 92 = .ok (.aload_n 0, 1) := by decide +kernel
theorem dX9_house_93 : decode cX9_house 93 = .ok (.getfield 19, 3) := by decide +kernel
theorem dX9_house_96 : decode cX9_house 96 = .ok (.iload_n 1, 1) := by decide +kernel
theorem dX9_house_97 : decode cX9_house 97 = .ok (.aload_n 0, 1) := by decide +kernel
theorem dX9_house_98 : decode cX9_house 98 = .ok (.getfield 7, 3) := by decide +kernel
theorem dX9_house_101 : decode cX9_house 101 = .ok (.iconst 4, 1) := by decide +kernel
theorem dX9_house_102 : decode cX9_house 102 = .ok (.iload_n 1, 1) := by decide +kernel
theorem dX9_house_103 : decode cX9_house 103 = .ok (.imul, 1) := by decide +kernel
theorem dX9_house_104 : decode cX9_house 104 = .ok (.iconst 2, 1) := by decide +kernel
theorem dX9_house_105 : decode cX9_house 105 = .ok (.iadd, 1) := by decide +kernel
theorem dX9_house_106 : decode cX9_house 106 = .ok (.iaload, 1) := by decide +kernel
theorem dX9_house_107 : decode cX9_house 107 = .ok (.bipush 48, 2) := by decide +kernel
theorem dX9_house_109 : decode cX9_house 109 = .ok (.isub, 1) := by decide +kernel
theorem dX9_house_110 : decode cX9_house 110 = .ok (.iastore, 1) := by decide +kernel
theorem dX9_house_111 : decode cX9_house 111 = .ok (.aload_n 0, 1) := by decide +kernel
theorem dX9_house_112 : decode cX9_house 112 = .ok (.getfield 22, 3) := by decide +kernel
theorem dX9_house_115 : decode cX9_house 115 = .ok (.iload_n 1, 1) := by decide +kernel
theorem dX9_house_116 : decode cX9_house 116 = .ok (.iconst 0, 1) := by decide +kernel
theorem dX9_house_117 : decode cX9_house 117 = .ok (.iastore, 1) := by decide +kernel
theorem dX9_house_118 : decode cX9_house 118 = .ok (.aload_n 0, 1) := by decide +kernel
theorem dX9_house_119 : decode cX9_house 119 = .ok (.getfield 25, 3) := by decide +kernel
theorem dX9_house_122 : decode cX9_house 122 = .ok (.iload_n 1, 1) := by decide +kernel
theorem dX9_house_123 : decode cX9_house 123 = .ok (.iconst 0, 1) := by decide +kernel
theorem dX9_house_124 : decode cX9_house 124 = .ok (.iastore, 1) := by decide +kernel
theorem dX9_house_125 : decode cX9_house 125 = .ok (.iinc 1 1, 3) := by decide +kernel
theorem dX9_house_128 : decode cX9_house 128 = .ok (.goto (-80), 3) := by decide +kernel
theorem dX9_house_131 : decode cX9_house 131 = .ok (.aload_n 0, 1) := by decide +kernel
theorem dX9_house_132 : decode cX9_house 132 = .ok (.bipush 10, 2) := by decide +kernel
theorem dX9_house_134 : decode cX9_house 134 = .ok (.aload_n 0, 1) := by decide +kernel
theorem dX9_house_135 : decode cX9_house 135 = .ok (.getfield 7, 3) := by decide +kernel
theorem dX9_house_138 : decode cX9_house 138 = .ok (.aload_n 0, 1) := by decide +kernel
theorem dX9_house_139 : decode cX9_house 139 = .ok (.getfield 74, 3) := by decide +kernel
theorem dX9_house_142 : decode cX9_house 142 = .ok (.iconst 1, 1) := by decide +kernel
theorem dX9_house_143 : decode cX9_house 143 = .ok (.iadd, 1) := by decide +kernel
theorem dX9_house_144 : decode cX9_house 144 = .ok (.iaload, 1) := by decide +kernel
theorem dX9_house_145 : decode cX9_house 145 = .ok (.bipush 48, 2) := by decide +kernel
theorem dX9_house_147 : decode cX9_house 147 = .ok (.isub, 1) := by decide +kernel
theorem dX9_house_148 : decode cX9_house 148 = .ok (.imul, 1) := by decide +kernel
theorem dX9_house_149 : decode cX9_house 149 = .ok (.aload_n 0, 1) := by decide +kernel
theorem dX9_house_150 : decode cX9_house 150 = .ok (.getfield 7, 3) := by decide +kernel
theorem dX9_house_153 : decode cX9_house 153 = .ok (.aload_n 0, 1) := by decide +kernel
theorem dX9_house_154 : decode cX9_house 154 = .ok (.getfield 74, 3) := by decide +kernel
theorem dX9_house_157 : decode cX9_house 157 = .ok (.iconst 2, 1) := by decide +kernel
theorem dX9_house_158 : decode cX9_house 158 = .ok (.iadd, 1) := by decide +kernel
theorem dX9_house_159 : decode cX9_house 159 = .ok (.iaload, 1) := by decide +kernel
theorem dX9_house_160 : decode cX9_house 160 = .ok (.iadd, 1) := by decide +kernel
theorem dX9_house_161 : decode cX9_house 161 = .ok (.bipush 48, 2) := by decide +kernel
theorem dX9_house_163 : decode cX9_house 163 = .ok (.isub, 1) := by decide +kernel
theorem dX9_house_164 : decode cX9_house 164 = .ok (.putfield 98, 3) := by decide +kernel
theorem dX9_house_167 : decode cX9_house 167 = .ok (.aload_n 0, 1) := by decide +kernel
theorem dX9_house_168 : decode cX9_house 168 = .ok (.iconst 0, 1) := by decide +kernel
theorem dX9_house_169 : decode cX9_house 169 = .ok (.putfield 101, 3) := by decide +kernel
theorem dX9_house_172 : decode cX9_house 172 = .ok (.aload_n 0, 1) := by decide +kernel
theorem dX9_house_173 : decode cX9_house 173 = .ok (.iconst 0, 1) := by decide +kernel
theorem dX9_house_174 : decode cX9_house 174 = .ok (.putfield 104, 3) := by decide +kernel
theorem dX9_house_177 : decode cX9_house 177 = .ok (.aload_n 0, 1) := by decide +kernel
theorem dX9_house_178 : decode cX9_house 178 = .ok (.iconst 0, 1) := by decide +kernel
theorem dX9_house_179 : decode cX9_house 179 = .ok (.putfield 107, 3) := by decide +kernel
theorem dX9_house_182 : decode cX9_house 182 = .ok (.aload_n 0, 1) := by decide +kernel
theorem dX9_house_183 : decode cX9_house 183 = .ok (.dup, 1) := by decide +kernel
theorem dX9_house_184 : decode cX9_house 184 = .ok (.getfield 110, 3) := by decide +kernel
theorem dX9_house_187 : decode cX9_house 187 = .ok (.iconst 1, 1) := by decide +kernel
theorem dX9_house_188 : decode cX9_house 188 = .ok (.iadd, 1) := by decide +kernel
theorem dX9_house_189 : decode cX9_house 189 = .ok (.putfield 110, 3) := by decide +kernel
theorem dX9_house_192 : decode cX9_house 192 = .ok (.aload_n 0, 1) := by decide +kernel
theorem dX9_house_193 : decode cX9_house 193 = .ok (.iconst 0, 1) := by decide +kernel
theorem dX9_house_194 : decode cX9_house 194 = .ok (.putfield 71, 3) := by decide +kernel
theorem dX9_house_197 : decode cX9_house 197 = .ok (.aload_n 0, 1) := by decide +kernel
theorem dX9_house_198 : decode cX9_house 198 = .ok (.getfield 95, 3) := by decide +kernel
theorem dX9_house_201 : decode cX9_house 201 = .ok (.ireturn, 1) := by decide +kernel
theorem dX9_lacks_0 : decode cX9_lacks 0 = .ok (.aload_n 0, 1) := by decide +kernel
theorem dX9_lacks_1 : decode cX9_lacks 1 = .ok (.getfield 95, 3) := by decide +kernel
theorem dX9_lacks_4 : decode cX9_lacks 4 = .ok (.ifCond .ne 7, 3) := by decide +kernel
theorem dX9_lacks_7 : decode cX9_lacks 7 = .ok (.iconst 1, 1) := by decide +kernel
theorem dX9_lacks_8 : decode cX9_lacks 8 = .ok (.goto 4, 3) := by decide +kernel
theorem dX9_lacks_11 : decode cX9_lacks 11 = .ok (.iconst 0, 1) := by decide +kernel
theorem dX9_lacks_12 : decode cX9_lacks 12 = .ok (.ireturn, 1) := by decide +kernel
set_option maxRecDepth 20000 in
theorem ggX9_isThing_X9_in : GoodIn wsX9_isThing wsX9_in := goodIn_r _ [5] (by decide +kernel) (by decide +kernel)
set_option maxRecDepth 20000 in
theorem gX9_isThing_X9_in : GoodIn wsX9_isThing (va_wsS RX9 67 yX9_in wsX9_in) := goodIn_app (goodIn_of _ (by decide +kernel)) ggX9_isThing_X9_in
theorem dX9_isThing_0 : decode cX9_isThing 0 = .ok (.iload_n 1, 1) := by decide +kernel
theorem dX9_isThing_1 : decode cX9_isThing 1 = .ok (.i2l, 1) := by decide +kernel
theorem dX9_isThing_2 : decode cX9_isThing 2 = .ok (.lconst 0, 1) := by decide +kernel
theorem dX9_isThing_3 : decode cX9_isThing 3 = .ok (.aload_n 0, 1) := by decide +kernel
theorem dX9_isThing_4 : decode cX9_isThing 4 = .ok (.getfield 95, 3) := by decide +kernel
theorem dX9_isThing_7 : decode cX9_isThing 7 = .ok (.iconst 1, 1) := by decide +kernel
theorem dX9_isThing_8 : decode cX9_isThing 8 = .ok (.isub, 1) := by decide +kernel
theorem dX9_isThing_9 : decode cX9_isThing 9 = .ok (.i2l, 1) := by decide +kernel
theorem dX9_isThing_10 : decode cX9_isThing 10 = .ok (.invokestatic 67, 3) := by decide +kernel
theorem dX9_isThing_13 : decode cX9_isThing 13 = .ok (.ireturn, 1) := by decide +kernel
set_option maxRecDepth 20000 in
theorem ggX9_begin_X9_copy : GoodIn wsX9_begin wsX9_copy := goodIn_r _ [12] (by decide +kernel) (by decide +kernel)
set_option maxRecDepth 20000 in
theorem gX9_begin_X9_copy : GoodIn wsX9_begin (va_wsS RX9 113 yX9_copy wsX9_copy) := goodIn_app (goodIn_of _ (by decide +kernel)) ggX9_begin_X9_copy
theorem dX9_begin_0 : decode cX9_begin 0 = .ok (.aload_n 0, 1) := by decide +kernel
theorem dX9_begin_1 : decode cX9_begin 1 = .ok (.getfield 19, 3) := by decide +kernel
theorem dX9_begin_4 : decode cX9_begin 4 = .ok (.aload_n 0, 1) := by decide +kernel
theorem dX9_begin_5 : decode cX9_begin 5 = .ok (.getfield 28, 3) := by decide +kernel
theorem dX9_begin_8 : decode cX9_begin 8 = .ok (.invokestatic 113, 3) := by decide +kernel
theorem dX9_begin_11 : decode cX9_begin 11 = .ok (.aload_n 0, 1) := by decide +kernel
theorem dX9_begin_12 : decode cX9_begin 12 = .ok (.getfield 22, 3) := by decide +kernel
theorem dX9_begin_15 : decode cX9_begin 15 = .ok (.aload_n 0, 1) := by decide +kernel
theorem dX9_begin_16 : decode cX9_begin 16 = .ok (.getfield 31, 3) := by decide +kernel
theorem dX9_begin_19 : decode cX9_begin 19 = .ok (.invokestatic 113, 3) := by decide +kernel
theorem dX9_begin_22 : decode cX9_begin 22 = .ok (.aload_n 0, 1) := by decide +kernel
theorem dX9_begin_23 : decode cX9_begin 23 = .ok (.getfield 25, 3) := by decide +kernel
theorem dX9_begin_26 : decode cX9_begin 26 = .ok (.aload_n 0, 1) := by decide +kernel
theorem dX9_begin_27 : decode cX9_begin 27 = .ok (.getfield 34, 3) := by decide +kernel
theorem dX9_begin_30 : decode cX9_begin 30 = .ok (.invokestatic 113, 3) := by decide +kernel
theorem dX9_begin_33 : decode cX9_begin 33 = .ok (.aload_n 0, 1) := by decide +kernel
theorem dX9_begin_34 : decode cX9_begin 34 = .ok (.aload_n 0, 1) := by decide +kernel
theorem dX9_begin_35 : decode cX9_begin 35 = .ok (.getfield 98, 3) := by decide +kernel
theorem dX9_begin_38 : decode cX9_begin 38 = .ok (.putfield 117, 3) := by decide +kernel
theorem dX9_begin_41 : decode cX9_begin 41 = .ok (.return_, 1) := by decide +kernel
set_option maxRecDepth 20000 in
theorem ggX9_keep_X9_copy : GoodIn wsX9_keep wsX9_copy := goodIn_r _ [12] (by decide +kernel) (by decide +kernel)
set_option maxRecDepth 20000 in
theorem gX9_keep_X9_copy : GoodIn wsX9_keep (va_wsS RX9 113 yX9_copy wsX9_copy) := goodIn_app (goodIn_of _ (by decide +kernel)) ggX9_keep_X9_copy
theorem dX9_keep_0 : decode cX9_keep 0 = .ok (.aload_n 0, 1) := by decide +kernel
theorem dX9_keep_1 : decode cX9_keep 1 = .ok (.getfield 28, 3) := by decide +kernel
theorem dX9_keep_4 : decode cX9_keep 4 = .ok (.aload_n 0, 1) := by decide +kernel
theorem dX9_keep_5 : decode cX9_keep 5 = .ok (.getfield 19, 3) := by decide +kernel
theorem dX9_keep_8 : decode cX9_keep 8 = .ok (.invokestatic 113, 3) := by decide +kernel
theorem dX9_keep_11 : decode cX9_keep 11 = .ok (.aload_n 0, 1) := by decide +kernel
theorem dX9_keep_12 : decode cX9_keep 12 = .ok (.getfield 31, 3) := by decide +kernel
theorem dX9_keep_15 : decode cX9_keep 15 = .ok (.aload_n 0, 1) := by decide +kernel
theorem dX9_keep_16 : decode cX9_keep 16 = .ok (.getfield 22, 3) := by decide +kernel
theorem dX9_keep_19 : decode cX9_keep 19 = .ok (.invokestatic 113, 3) := by decide +kernel
theorem dX9_keep_22 : decode cX9_keep 22 = .ok (.aload_n 0, 1) := by decide +kernel
theorem dX9_keep_23 : decode cX9_keep 23 = .ok (.getfield 34, 3) := by decide +kernel
theorem dX9_keep_26 : decode cX9_keep 26 = .ok (.aload_n 0, 1) := by decide +kernel
theorem dX9_keep_27 : decode cX9_keep 27 = .ok (.getfield 25, 3) := by decide +kernel
theorem dX9_keep_30 : decode cX9_keep 30 = .ok (.invokestatic 113, 3) := by decide +kernel
theorem dX9_keep_33 : decode cX9_keep 33 = .ok (.aload_n 0, 1) := by decide +kernel
theorem dX9_keep_34 : decode cX9_keep 34 = .ok (.aload_n 0, 1) := by decide +kernel
theorem dX9_keep_35 : decode cX9_keep 35 = .ok (.getfield 117, 3) := by decide +kernel
theorem dX9_keep_38 : decode cX9_keep 38 = .ok (.putfield 98, 3) := by decide +kernel
theorem dX9_keep_41 : decode cX9_keep 41 = .ok (.return_, 1) := by decide +kernel
theorem dX9_missedBy_0 : decode cX9_missedBy 0 = .ok (.iload_n 1, 1) := by decide +kernel
theorem dX9_missedBy_1 : decode cX9_missedBy 1 = .ok (.iload_n 2, 1) := by decide +kernel
theorem dX9_missedBy_2 : decode cX9_missedBy 2 = .ok (.isub, 1) := by decide +kernel
theorem dX9_missedBy_3 : decode cX9_missedBy 3 = .ok (.istore_n 3, 1) := by decide +kernel
theorem dX9_missedBy_4 : decode cX9_missedBy 4 = .ok (.iload_n 0, 1) := by decide +kernel
theorem dX9_missedBy_5 : decode cX9_missedBy 5 = .ok (.tableswitch 63 1 4 #[31, 40, 45, 54], 31) := by decide +kernel
theorem dX9_missedBy_36 : decode cX9_missedBy 36 = .ok (.iload_n 1, 1) := by decide +kernel
theorem dX9_missedBy_37 : decode cX9_missedBy 37 = .ok (.iconst 2, 1) := by decide +kernel
theorem dX9_missedBy_38 : decode cX9_missedBy 38 = .ok (.iload_n 2, 1) := by decide +kernel
theorem dX9_missedBy_39 : decode cX9_missedBy 39 = .ok (.imul, 1) := by decide +kernel
theorem dX9_missedBy_40 : decode cX9_missedBy 40 = .ok (.isub, 1) := by decide +kernel
theorem dX9_missedBy_41 : decode cX9_missedBy 41 = .ok (.istore_n 3, 1) := by decide +kernel
theorem dX9_missedBy_42 : decode cX9_missedBy 42 = .ok (.goto 26, 3) := by decide +kernel
theorem dX9_missedBy_45 : decode cX9_missedBy 45 = .ok (.iload_n 1, 1) := by decide +kernel
theorem dX9_missedBy_46 : decode cX9_missedBy 46 = .ok (.istore_n 3, 1) := by decide +kernel
theorem dX9_missedBy_47 : decode cX9_missedBy 47 = .ok (.goto 21, 3) := by decide +kernel
theorem dX9_missedBy_50 : decode cX9_missedBy 50 = .ok (.iload_n 1, 1) := by decide +kernel
theorem dX9_missedBy_51 : decode cX9_missedBy 51 = .ok (.iconst 2, 1) := by decide +kernel
theorem dX9_missedBy_52 : decode cX9_missedBy 52 = .ok (.idiv, 1) := by decide +kernel
theorem dX9_missedBy_53 : decode cX9_missedBy 53 = .ok (.iload_n 2, 1) := by decide +kernel
theorem dX9_missedBy_54 : decode cX9_missedBy 54 = .ok (.isub, 1) := by decide +kernel
theorem dX9_missedBy_55 : decode cX9_missedBy 55 = .ok (.istore_n 3, 1) := by decide +kernel
theorem dX9_missedBy_56 : decode cX9_missedBy 56 = .ok (.goto 12, 3) := by decide +kernel
theorem dX9_missedBy_59 : decode cX9_missedBy 59 = .ok (.iload_n 1, 1) := by decide +kernel
theorem dX9_missedBy_60 : decode cX9_missedBy 60 = .ok (.iconst 4, 1) := by decide +kernel
theorem dX9_missedBy_61 : decode cX9_missedBy 61 = .ok (.iload_n 2, 1) := by decide +kernel
theorem dX9_missedBy_62 : decode cX9_missedBy 62 = .ok (.imul, 1) := by decide +kernel
theorem dX9_missedBy_63 : decode cX9_missedBy 63 = .ok (.isub, 1) := by decide +kernel
theorem dX9_missedBy_64 : decode cX9_missedBy 64 = .ok (.istore_n 3, 1) := by decide +kernel
theorem dX9_missedBy_65 : decode cX9_missedBy 65 = .ok (.goto 3, 3) := by decide +kernel
theorem dX9_missedBy_68 : decode cX9_missedBy 68 = .ok (.iload_n 3, 1) := by decide +kernel
theorem dX9_missedBy_69 : decode cX9_missedBy 69 = .ok (.ifCond .le 7, 3) := by decide +kernel
theorem dX9_missedBy_72 : decode cX9_missedBy 72 = .ok (.iload_n 3, 1) := by decide +kernel
theorem dX9_missedBy_73 : decode cX9_missedBy 73 = .ok (.goto 4, 3) := by decide +kernel
theorem dX9_missedBy_76 : decode cX9_missedBy 76 = .ok (.iconst 0, 1) := by decide +kernel
theorem dX9_missedBy_77 : decode cX9_missedBy 77 = .ok (.ireturn, 1) := by decide +kernel
set_option maxRecDepth 20000 in
theorem ggX9_missedThen_X9_missedBy : GoodIn wsX9_missedThen wsX9_missedBy := goodIn_r _ [7] (by decide +kernel) (by decide +kernel)
set_option maxRecDepth 20000 in
theorem gX9_missedThen_X9_missedBy : GoodIn wsX9_missedThen (va_wsS RX9 120 yX9_missedBy wsX9_missedBy) := goodIn_app (goodIn_of _ (by decide +kernel)) ggX9_missedThen_X9_missedBy
theorem dX9_missedThen_0 : decode cX9_missedThen 0 = .ok (.aload_n 0, 1) := by decide +kernel
theorem dX9_missedThen_1 : decode cX9_missedThen 1 = .ok (.getfield 13, 3) := by decide +kernel
theorem dX9_missedThen_4 : decode cX9_missedThen 4 = .ok (.iload_n 1, 1) := by decide +kernel
theorem dX9_missedThen_5 : decode cX9_missedThen 5 = .ok (.iaload, 1) := by decide +kernel
theorem dX9_missedThen_6 : decode cX9_missedThen 6 = .ok (.aload_n 0, 1) := by decide +kernel
theorem dX9_missedThen_7 : decode cX9_missedThen 7 = .ok (.getfield 28, 3) := by decide +kernel
theorem dX9_missedThen_10 : decode cX9_missedThen 10 = .ok (.iload_n 1, 1) := by decide +kernel
theorem dX9_missedThen_11 : decode cX9_missedThen 11 = .ok (.iaload, 1) := by decide +kernel
theorem dX9_missedThen_12 : decode cX9_missedThen 12 = .ok (.aload_n 0, 1) := by decide +kernel
theorem dX9_missedThen_13 : decode cX9_missedThen 13 = .ok (.getfield 31, 3) := by decide +kernel
theorem dX9_missedThen_16 : decode cX9_missedThen 16 = .ok (.iload_n 1, 1) := by decide +kernel
theorem dX9_missedThen_17 : decode cX9_missedThen 17 = .ok (.iaload, 1) := by decide +kernel
theorem dX9_missedThen_18 : decode cX9_missedThen 18 = .ok (.invokestatic 120, 3) := by decide +kernel
theorem dX9_missedThen_21 : decode cX9_missedThen 21 = .ok (.ireturn, 1) := by decide +kernel
theorem dX9_touchThen_0 : decode cX9_touchThen 0 = .ok (.aload_n 0, 1) := by decide +kernel
theorem dX9_touchThen_1 : decode cX9_touchThen 1 = .ok (.getfield 28, 3) := by decide +kernel
theorem dX9_touchThen_4 : decode cX9_touchThen 4 = .ok (.iload_n 1, 1) := by decide +kernel
theorem dX9_touchThen_5 : decode cX9_touchThen 5 = .ok (.dup2, 1) := by decide +kernel
theorem dX9_touchThen_6 : decode cX9_touchThen 6 = .ok (.iaload, 1) := by decide +kernel
theorem dX9_touchThen_7 : decode cX9_touchThen 7 = .ok (.aload_n 0, 1) := by decide +kernel
theorem dX9_touchThen_8 : decode cX9_touchThen 8 = .ok (.getfield 28, 3) := by decide +kernel
theorem dX9_touchThen_11 : decode cX9_touchThen 11 = .ok (.iload_n 1, 1) := by decide +kernel
theorem dX9_touchThen_12 : decode cX9_touchThen 12 = .ok (.iaload, 1) := by decide +kernel
theorem dX9_touchThen_13 : decode cX9_touchThen 13 = .ok (.bipush 20, 2) := by decide +kernel
theorem dX9_touchThen_15 : decode cX9_touchThen 15 = .ok (.if_icmp .ge 7, 3) := by decide +kernel
theorem dX9_touchThen_18 : decode cX9_touchThen 18 = .ok (.iconst 1, 1) := by decide +kernel
theorem dX9_touchThen_19 : decode cX9_touchThen 19 = .ok (.goto 4, 3) := by decide +kernel
theorem dX9_touchThen_22 : decode cX9_touchThen 22 = .ok (.iconst 0, 1) := by decide +kernel
theorem dX9_touchThen_23 : decode cX9_touchThen 23 = .ok (.iadd, 1) := by decide +kernel
theorem dX9_touchThen_24 : decode cX9_touchThen 24 = .ok (.iastore, 1) := by decide +kernel
theorem dX9_touchThen_25 : decode cX9_touchThen 25 = .ok (.aload_n 0, 1) := by decide +kernel
theorem dX9_touchThen_26 : decode cX9_touchThen 26 = .ok (.getfield 31, 3) := by decide +kernel
theorem dX9_touchThen_29 : decode cX9_touchThen 29 = .ok (.iload_n 1, 1) := by decide +kernel
theorem dX9_touchThen_30 : decode cX9_touchThen 30 = .ok (.iconst 0, 1) := by decide +kernel
theorem dX9_touchThen_31 : decode cX9_touchThen 31 = .ok (.iastore, 1) := by decide +kernel
theorem dX9_touchThen_32 : decode cX9_touchThen 32 = .ok (.return_, 1) := by decide +kernel
theorem dX9_dayThen_0 : decode cX9_dayThen 0 = .ok (.iconst 0, 1) := by decide +kernel
theorem dX9_dayThen_1 : decode cX9_dayThen 1 = .ok (.istore_n 1, 1) := by decide +kernel
theorem dX9_dayThen_2 : decode cX9_dayThen 2 = .ok (.iload_n 1, 1) := by decide +kernel
theorem dX9_dayThen_3 : decode cX9_dayThen 3 = .ok (.aload_n 0, 1) := by decide +kernel
theorem dX9_dayThen_4 : decode cX9_dayThen 4 = .ok (.getfield 95, 3) := by decide +kernel
theorem dX9_dayThen_7 : decode cX9_dayThen 7 = .ok (.if_icmp .ge 43, 3) := by decide +kernel
theorem dX9_dayThen_10 : decode cX9_dayThen 10 = .ok (.aload_n 0, 1) := by decide +kernel
theorem dX9_dayThen_11 : decode cX9_dayThen 11 = .ok (.getfield 31, 3) := by decide +kernel
theorem dX9_dayThen_14 : decode cX9_dayThen 14 = .ok (.iload_n 1, 1) := by decide +kernel
theorem dX9_dayThen_15 : decode cX9_dayThen 15 = .ok (.dup2, 1) := by decide +kernel
theorem dX9_dayThen_16 : decode cX9_dayThen 16 = .ok (.iaload, 1) := by decide +kernel
theorem dX9_dayThen_17 : decode cX9_dayThen 17 = .ok (.aload_n 0, 1) := by decide +kernel
theorem dX9_dayThen_18 : decode cX9_dayThen 18 = .ok (.getfield 34, 3) := by decide +kernel
theorem dX9_dayThen_21 : decode cX9_dayThen 21 = .ok (.iload_n 1, 1) := by decide +kernel
theorem dX9_dayThen_22 : decode cX9_dayThen 22 = .ok (.iaload, 1) := by decide +kernel
theorem dX9_dayThen_23 : decode cX9_dayThen 23 = .ok (.ifCond .ne 18, 3) := by decide +kernel
theorem dX9_dayThen_26 : decode cX9_dayThen 26 = .ok (.aload_n 0, 1) := by decide +kernel
theorem dX9_dayThen_27 : decode cX9_dayThen 27 = .ok (.getfield 31, 3) := by decide +kernel
theorem dX9_dayThen_30 : decode cX9_dayThen 30 = .ok (.iload_n 1, 1) := by decide +kernel
theorem dX9_dayThen_31 : decode cX9_dayThen 31 = .ok (.iaload, 1) := by decide +kernel
theorem dX9_dayThen_32 : decode cX9_dayThen 32 = .ok (.bipush 20, 2) := by decide +kernel
theorem dX9_dayThen_34 : decode cX9_dayThen 34 = .ok (.if_icmp .ge 7, 3) := by decide +kernel
theorem dX9_dayThen_37 : decode cX9_dayThen 37 = .ok (.iconst 1, 1) := by decide +kernel
theorem dX9_dayThen_38 : decode cX9_dayThen 38 = .ok (.goto 4, 3) := by decide +kernel
theorem dX9_dayThen_41 : decode cX9_dayThen 41 = .ok (.iconst 0, 1) := by decide +kernel
theorem dX9_dayThen_42 : decode cX9_dayThen 42 = .ok (.iadd, 1) := by decide +kernel
theorem dX9_dayThen_43 : decode cX9_dayThen 43 = .ok (.iastore, 1) := by decide +kernel
theorem dX9_dayThen_44 : decode cX9_dayThen 44 = .ok (.iinc 1 1, 3) := by decide +kernel
theorem dX9_dayThen_47 : decode cX9_dayThen 47 = .ok (.goto (-45), 3) := by decide +kernel
theorem dX9_dayThen_50 : decode cX9_dayThen 50 = .ok (.return_, 1) := by decide +kernel
set_option maxRecDepth 20000 in
theorem ggX9_nextThen_X9_missedThen : GoodIn wsX9_nextThen wsX9_missedThen := goodIn_r _ [8, 9, 10, 11, 12, 13, 7, 14, 15, 16, 17, 18, 19, 20, 21, 22, 23, 24, 25, 26, 27, 28, 29, 30, 31, 32, 33, 34, 35, 36, 37, 38, 39, 40, 41, 42, 43, 44, 45, 46, 47, 48] (by decide +kernel) (by decide +kernel)
set_option maxRecDepth 20000 in
theorem gX9_nextThen_X9_missedThen : GoodIn wsX9_nextThen (wsV RX9 124 RX9 yX9_missedThen wsX9_missedThen) := goodIn_app (goodIn_of _ (by decide +kernel)) ggX9_nextThen_X9_missedThen
theorem dX9_nextThen_0 : decode cX9_nextThen 0 = .ok (.iconst (-1), 1) := by decide +kernel
theorem dX9_nextThen_1 : decode cX9_nextThen 1 = .ok (.istore_n 1, 1) := by decide +kernel
theorem dX9_nextThen_2 : decode cX9_nextThen 2 = .ok (.iconst 0, 1) := by decide +kernel
theorem dX9_nextThen_3 : decode cX9_nextThen 3 = .ok (.istore_n 2, 1) := by decide +kernel
theorem dX9_nextThen_4 : decode cX9_nextThen 4 = .ok (.iload_n 2, 1) := by decide +kernel
theorem dX9_nextThen_5 : decode cX9_nextThen 5 = .ok (.aload_n 0, 1) := by decide +kernel
theorem dX9_nextThen_6 : decode cX9_nextThen 6 = .ok (.getfield 95, 3) := by decide +kernel
theorem dX9_nextThen_9 : decode cX9_nextThen 9 = .ok (.if_icmp .ge 45, 3) := by decide +kernel
theorem dX9_nextThen_12 : decode cX9_nextThen 12 = .ok (.aload_n 0, 1) := by decide +kernel
theorem dX9_nextThen_13 : decode cX9_nextThen 13 = .ok (.getfield 117, 3) := by decide +kernel
theorem dX9_nextThen_16 : decode cX9_nextThen 16 = .ok (.ifCond .le 38, 3) := by decide +kernel
theorem dX9_nextThen_19 : decode cX9_nextThen 19 = .ok (.aload_n 0, 1) := by decide +kernel
theorem dX9_nextThen_20 : decode cX9_nextThen 20 = .ok (.getfield 34, 3) := by decide +kernel
theorem dX9_nextThen_23 : decode cX9_nextThen 23 = .ok (.iload_n 2, 1) := by decide +kernel
theorem dX9_nextThen_24 : decode cX9_nextThen 24 = .ok (.iaload, 1) := by decide +kernel
theorem dX9_nextThen_25 : decode cX9_nextThen 25 = .ok (.ifCond .ne 23, 3) := by decide +kernel
theorem dX9_nextThen_28 : decode cX9_nextThen 28 = .ok (.iload_n 1, 1) := by decide +kernel
theorem dX9_nextThen_29 : decode cX9_nextThen 29 = .ok (.iconst (-1), 1) := by decide +kernel
theorem dX9_nextThen_30 : decode cX9_nextThen 30 = .ok (.if_icmp .eq 16, 3) := by decide +kernel
theorem dX9_nextThen_33 : decode cX9_nextThen 33 = .ok (.aload_n 0, 1) := by decide +kernel
theorem dX9_nextThen_34 : decode cX9_nextThen 34 = .ok (.iload_n 2, 1) := by decide +kernel
theorem dX9_nextThen_35 : decode cX9_nextThen 35 = .ok (.invokevirtual 124, 3) := by decide +kernel
theorem dX9_nextThen_38 : decode cX9_nextThen 38 = .ok (.aload_n 0, 1) := by decide +kernel
theorem dX9_nextThen_39 : decode cX9_nextThen 39 = .ok (.iload_n 1, 1) := by decide +kernel
theorem dX9_nextThen_40 : decode cX9_nextThen 40 = .ok (.invokevirtual 124, 3) := by decide +kernel
theorem dX9_nextThen_43 : decode cX9_nextThen 43 = .ok (.if_icmp .ge 5, 3) := by decide +kernel
theorem dX9_nextThen_46 : decode cX9_nextThen 46 = .ok (.iload_n 2, 1) := by decide +kernel
theorem dX9_nextThen_47 : decode cX9_nextThen 47 = .ok (.istore_n 1, 1) := by decide +kernel
theorem dX9_nextThen_48 : decode cX9_nextThen 48 = .ok (.iinc 2 1, 3) := by decide +kernel
theorem dX9_nextThen_51 : decode cX9_nextThen 51 = .ok (.goto (-47), 3) := by decide +kernel
theorem dX9_nextThen_54 : decode cX9_nextThen 54 = .ok (.iload_n 1, 1) := by decide +kernel
theorem dX9_nextThen_55 : decode cX9_nextThen 55 = .ok (.ireturn, 1) := by decide +kernel
set_option maxRecDepth 20000 in
theorem ggX9_takeThen_X9_nextThen : GoodIn wsX9_takeThen wsX9_nextThen := goodIn_r _ [8, 9, 2, 1, 10, 11, 12, 7, 13, 14, 15, 16, 17, 18, 19, 20, 21, 22, 23, 24, 25, 26, 27, 28, 29, 30, 31, 32, 33, 34, 35, 36, 37, 38, 39, 40, 41, 42, 43, 44, 45, 46, 47, 48, 49, 50, 51, 52, 53] (by decide +kernel) (by decide +kernel)
set_option maxRecDepth 20000 in
theorem gX9_takeThen_X9_nextThen : GoodIn wsX9_takeThen (wsV RX9 127 RX9 yX9_nextThen wsX9_nextThen) := goodIn_app (goodIn_of _ (by decide +kernel)) ggX9_takeThen_X9_nextThen
theorem dX9_takeThen_0 : decode cX9_takeThen 0 = .ok (.aload_n 0, 1) := by decide +kernel
theorem dX9_takeThen_1 : decode cX9_takeThen 1 = .ok (.invokevirtual 127, 3) := by decide +kernel
theorem dX9_takeThen_4 : decode cX9_takeThen 4 = .ok (.istore_n 1, 1) := by decide +kernel
theorem dX9_takeThen_5 : decode cX9_takeThen 5 = .ok (.iload_n 1, 1) := by decide +kernel
theorem dX9_takeThen_6 : decode cX9_takeThen 6 = .ok (.iconst (-1), 1) := by decide +kernel
theorem dX9_takeThen_7 : decode cX9_takeThen 7 = .ok (.if_icmp .ne 5, 3) := by decide +kernel
theorem dX9_takeThen_10 : decode cX9_takeThen 10 = .ok (.iconst 0, 1) := by decide +kernel
theorem dX9_takeThen_11 : decode cX9_takeThen 11 = .ok (.ireturn, 1) := by decide +kernel
theorem dX9_takeThen_12 : decode cX9_takeThen 12 = .ok (.aload_n 0, 1) := by decide +kernel
theorem dX9_takeThen_13 : decode cX9_takeThen 13 = .ok (.getfield 34, 3) := by decide +kernel
theorem dX9_takeThen_16 : decode cX9_takeThen 16 = .ok (.iload_n 1, 1) := by decide +kernel
theorem dX9_takeThen_17 : decode cX9_takeThen 17 = .ok (.iconst 1, 1) := by decide +kernel
theorem dX9_takeThen_18 : decode cX9_takeThen 18 = .ok (.iastore, 1) := by decide +kernel
theorem dX9_takeThen_19 : decode cX9_takeThen 19 = .ok (.aload_n 0, 1) := by decide +kernel
theorem dX9_takeThen_20 : decode cX9_takeThen 20 = .ok (.aload_n 0, 1) := by decide +kernel
theorem dX9_takeThen_21 : decode cX9_takeThen 21 = .ok (.getfield 117, 3) := by decide +kernel
theorem dX9_takeThen_24 : decode cX9_takeThen 24 = .ok (.aload_n 0, 1) := by decide +kernel
theorem dX9_takeThen_25 : decode cX9_takeThen 25 = .ok (.getfield 16, 3) := by decide +kernel
theorem dX9_takeThen_28 : decode cX9_takeThen 28 = .ok (.iload_n 1, 1) := by decide +kernel
theorem dX9_takeThen_29 : decode cX9_takeThen 29 = .ok (.iaload, 1) := by decide +kernel
theorem dX9_takeThen_30 : decode cX9_takeThen 30 = .ok (.if_icmp .le 17, 3) := by decide +kernel
theorem dX9_takeThen_33 : decode cX9_takeThen 33 = .ok (.aload_n 0, 1) := by decide +kernel
theorem dX9_takeThen_34 : decode cX9_takeThen 34 = .ok (.getfield 117, 3) := by decide +kernel
theorem dX9_takeThen_37 : decode cX9_takeThen 37 = .ok (.aload_n 0, 1) := by decide +kernel
theorem dX9_takeThen_38 : decode cX9_takeThen 38 = .ok (.getfield 16, 3) := by decide +kernel
theorem dX9_takeThen_41 : decode cX9_takeThen 41 = .ok (.iload_n 1, 1) := by decide +kernel
theorem dX9_takeThen_42 : decode cX9_takeThen 42 = .ok (.iaload, 1) := by decide +kernel
theorem dX9_takeThen_43 : decode cX9_takeThen 43 = .ok (.isub, 1) := by decide +kernel
theorem dX9_takeThen_44 : decode cX9_takeThen 44 = .ok (.goto 4, 3) := by decide +kernel
theorem dX9_takeThen_47 : decode cX9_takeThen 47 = .ok (.iconst 0, 1) := by decide +kernel
theorem dX9_takeThen_48 : decode cX9_takeThen 48 = .ok (.putfield 117, 3) := by decide +kernel
theorem dX9_takeThen_51 : decode cX9_takeThen 51 = .ok (.aload_n 0, 1) := by decide +kernel
theorem dX9_takeThen_52 : decode cX9_takeThen 52 = .ok (.getfield 16, 3) := by decide +kernel
theorem dX9_takeThen_55 : decode cX9_takeThen 55 = .ok (.iload_n 1, 1) := by decide +kernel
theorem dX9_takeThen_56 : decode cX9_takeThen 56 = .ok (.iaload, 1) := by decide +kernel
theorem dX9_takeThen_57 : decode cX9_takeThen 57 = .ok (.ireturn, 1) := by decide +kernel
set_option maxRecDepth 20000 in
theorem ggX9_missedLeft_X9_missedThen : GoodIn wsX9_missedLeft wsX9_missedThen := goodIn_r _ [7, 8, 9, 10, 11, 12, 6, 13, 14, 15, 16, 17, 18, 19, 20, 21, 22, 23, 24, 25, 26, 27, 28, 29, 30, 31, 32, 33, 34, 35, 36, 37, 38, 39, 40, 41, 42, 43, 44, 45, 46, 47] (by decide +kernel) (by decide +kernel)
set_option maxRecDepth 20000 in
theorem gX9_missedLeft_X9_missedThen : GoodIn wsX9_missedLeft (wsV RX9 124 RX9 yX9_missedThen wsX9_missedThen) := goodIn_app (goodIn_of _ (by decide +kernel)) ggX9_missedLeft_X9_missedThen
theorem dX9_missedLeft_0 : decode cX9_missedLeft 0 = .ok (.iconst 0, 1) := by decide +kernel
theorem dX9_missedLeft_1 : decode cX9_missedLeft 1 = .ok (.istore_n 1, 1) := by decide +kernel
theorem dX9_missedLeft_2 : decode cX9_missedLeft 2 = .ok (.iconst 0, 1) := by decide +kernel
theorem dX9_missedLeft_3 : decode cX9_missedLeft 3 = .ok (.istore_n 2, 1) := by decide +kernel
theorem dX9_missedLeft_4 : decode cX9_missedLeft 4 = .ok (.iload_n 2, 1) := by decide +kernel
theorem dX9_missedLeft_5 : decode cX9_missedLeft 5 = .ok (.aload_n 0, 1) := by decide +kernel
theorem dX9_missedLeft_6 : decode cX9_missedLeft 6 = .ok (.getfield 95, 3) := by decide +kernel
theorem dX9_missedLeft_9 : decode cX9_missedLeft 9 = .ok (.if_icmp .ge 30, 3) := by decide +kernel
theorem dX9_missedLeft_12 : decode cX9_missedLeft 12 = .ok (.iload_n 1, 1) := by decide +kernel
theorem dX9_missedLeft_13 : decode cX9_missedLeft 13 = .ok (.aload_n 0, 1) := by decide +kernel
theorem dX9_missedLeft_14 : decode cX9_missedLeft 14 = .ok (.getfield 34, 3) := by decide +kernel
theorem dX9_missedLeft_17 : decode cX9_missedLeft 17 = .ok (.iload_n 2, 1) := by decide +kernel
theorem dX9_missedLeft_18 : decode cX9_missedLeft 18 = .ok (.iaload, 1) := by decide +kernel
theorem dX9_missedLeft_19 : decode cX9_missedLeft 19 = .ok (.ifCond .ne 11, 3) := by decide +kernel
theorem dX9_missedLeft_22 : decode cX9_missedLeft 22 = .ok (.aload_n 0, 1) := by decide +kernel
theorem dX9_missedLeft_23 : decode cX9_missedLeft 23 = .ok (.iload_n 2, 1) := by decide +kernel
theorem dX9_missedLeft_24 : decode cX9_missedLeft 24 = .ok (.invokevirtual 124, 3) := by decide +kernel
theorem dX9_missedLeft_27 : decode cX9_missedLeft 27 = .ok (.goto 4, 3) := by decide +kernel
theorem dX9_missedLeft_30 : decode cX9_missedLeft 30 = .ok (.iconst 0, 1) := by decide +kernel
theorem dX9_missedLeft_31 : decode cX9_missedLeft 31 = .ok (.iadd, 1) := by decide +kernel
theorem dX9_missedLeft_32 : decode cX9_missedLeft 32 = .ok (.istore_n 1, 1) := by decide +kernel
theorem dX9_missedLeft_33 : decode cX9_missedLeft 33 = .ok (.iinc 2 1, 3) := by decide +kernel
theorem dX9_missedLeft_36 : decode cX9_missedLeft 36 = .ok (.goto (-32), 3) := by decide +kernel
theorem dX9_missedLeft_39 : decode cX9_missedLeft 39 = .ok (.iload_n 1, 1) := by decide +kernel
theorem dX9_missedLeft_40 : decode cX9_missedLeft 40 = .ok (.ireturn, 1) := by decide +kernel
set_option maxRecDepth 20000 in
theorem ggX9_tellThing_X9_begin : GoodIn wsX9_tellThing wsX9_begin := goodIn_r _ [10, 3, 11, 4, 12, 5, 13, 14, 15, 16, 17, 9, 18, 54, 55, 56, 57, 58, 59, 60, 61, 62, 63, 64, 65, 66, 67, 68, 69, 70, 71, 72, 73, 74, 75, 76, 77, 78, 79, 80, 81, 82, 83, 84, 85, 86, 87] (by decide +kernel) (by decide +kernel)
set_option maxRecDepth 20000 in
theorem gX9_tellThing_X9_begin : GoodIn wsX9_tellThing (wsV RX9 130 RX9 yX9_begin wsX9_begin) := goodIn_app (goodIn_of _ (by decide +kernel)) ggX9_tellThing_X9_begin
set_option maxRecDepth 20000 in
theorem ggX9_tellThing_X9_missedThen : GoodIn wsX9_tellThing wsX9_missedThen := goodIn_r _ [22, 1, 11, 12, 23, 24, 9, 25, 54, 55, 56, 57, 58, 59, 60, 61, 62, 63, 64, 65, 66, 67, 68, 69, 70, 71, 72, 73, 74, 75, 76, 77, 78, 79, 80, 81, 82, 83, 84, 85, 86, 87] (by decide +kernel) (by decide +kernel)
set_option maxRecDepth 20000 in
theorem gX9_tellThing_X9_missedThen : GoodIn wsX9_tellThing (wsV RX9 124 RX9 yX9_missedThen wsX9_missedThen) := goodIn_app (goodIn_of _ (by decide +kernel)) ggX9_tellThing_X9_missedThen
set_option maxRecDepth 20000 in
theorem ggX9_tellThing_X9_looksOf : GoodIn wsX9_tellThing wsX9_looksOf := goodIn_r _ [29, 30, 31, 32, 33, 34, 9, 35, 5, 4, 1, 23, 24, 25, 54, 55, 56, 57, 58, 59, 60, 61, 62, 63, 64, 65, 66, 67, 68, 69, 70, 71, 72, 73, 74, 75, 76, 77, 78, 79, 80, 81, 82, 83, 84, 85, 86, 87] (by decide +kernel) (by decide +kernel)
set_option maxRecDepth 20000 in
theorem gX9_tellThing_X9_looksOf : GoodIn wsX9_tellThing (wsV RX9 133 RX9 yX9_looksOf wsX9_looksOf) := goodIn_app (goodIn_of _ (by decide +kernel)) ggX9_tellThing_X9_looksOf
set_option maxRecDepth 20000 in
theorem ggX9_tellThing_X9_watchOf : GoodIn wsX9_tellThing wsX9_watchOf := goodIn_r _ [39, 26, 27, 28, 9, 29, 30, 31, 32, 33, 34, 35, 5, 4, 1, 23, 24, 25, 54, 55, 56, 57, 58, 59, 60, 61, 62, 63, 64, 65, 66, 67, 68, 69, 70, 71, 72, 73, 74, 75, 76, 77, 78, 79, 80, 81, 82, 83, 84, 85, 86, 87] (by decide +kernel) (by decide +kernel)
set_option maxRecDepth 20000 in
theorem gX9_tellThing_X9_watchOf : GoodIn wsX9_tellThing (wsV RX9 136 RX9 yX9_watchOf wsX9_watchOf) := goodIn_app (goodIn_of _ (by decide +kernel)) ggX9_tellThing_X9_watchOf
set_option maxRecDepth 20000 in
theorem ggX9_tellThing_X9_buyerOf : GoodIn wsX9_tellThing wsX9_buyerOf := goodIn_r _ [43, 44, 5, 45, 46, 47, 48, 9, 49, 50, 51, 52, 53, 3, 54, 55, 56, 57, 58, 59, 60, 61, 62, 63, 64, 65, 66, 67, 68, 69, 70, 71, 72, 73, 74, 75, 76, 77, 78, 79, 80, 81, 82, 83, 84, 85, 86, 87] (by decide +kernel) (by decide +kernel)
set_option maxRecDepth 20000 in
theorem gX9_tellThing_X9_buyerOf : GoodIn wsX9_tellThing (wsV RX9 139 RX9 yX9_buyerOf wsX9_buyerOf) := goodIn_app (goodIn_of _ (by decide +kernel)) ggX9_tellThing_X9_buyerOf
theorem dX9_tellThing_0 : decode cX9_tellThing 0 = .ok (.aload_n 0, 1) := by decide +kernel
theorem dX9_tellThing_1 : decode cX9_tellThing 1 = .ok (.invokevirtual 130, 3) := by decide +kernel
theorem dX9_tellThing_4 : decode cX9_tellThing 4 = .ok (.iload_n 2, 1) := by decide +kernel
theorem dX9_tellThing_5 : decode cX9_tellThing 5 = .ok (.tableswitch 110 0 8 #[51, 58, 65, 72, 79, 85, 92, 98, 104], 51) := by decide +kernel
theorem dX9_tellThing_56 : decode cX9_tellThing 56 = .ok (.aload_n 0, 1) := by decide +kernel
theorem dX9_tellThing_57 : decode cX9_tellThing 57 = .ok (.getfield 13, 3) := by decide +kernel
theorem dX9_tellThing_60 : decode cX9_tellThing 60 = .ok (.iload_n 1, 1) := by decide +kernel
theorem dX9_tellThing_61 : decode cX9_tellThing 61 = .ok (.iaload, 1) := by decide +kernel
theorem dX9_tellThing_62 : decode cX9_tellThing 62 = .ok (.ireturn, 1) := by decide +kernel
theorem dX9_tellThing_63 : decode cX9_tellThing 63 = .ok (.aload_n 0, 1) := by decide +kernel
theorem dX9_tellThing_64 : decode cX9_tellThing 64 = .ok (.getfield 16, 3) := by decide +kernel
theorem dX9_tellThing_67 : decode cX9_tellThing 67 = .ok (.iload_n 1, 1) := by decide +kernel
theorem dX9_tellThing_68 : decode cX9_tellThing 68 = .ok (.iaload, 1) := by decide +kernel
theorem dX9_tellThing_69 : decode cX9_tellThing 69 = .ok (.ireturn, 1) := by decide +kernel
theorem dX9_tellThing_70 : decode cX9_tellThing 70 = .ok (.aload_n 0, 1) := by decide +kernel
theorem dX9_tellThing_71 : decode cX9_tellThing 71 = .ok (.getfield 19, 3) := by decide +kernel
theorem dX9_tellThing_74 : decode cX9_tellThing 74 = .ok (.iload_n 1, 1) := by decide +kernel
theorem dX9_tellThing_75 : decode cX9_tellThing 75 = .ok (.iaload, 1) := by decide +kernel
theorem dX9_tellThing_76 : decode cX9_tellThing 76 = .ok (.ireturn, 1) := by decide +kernel
theorem dX9_tellThing_77 : decode cX9_tellThing 77 = .ok (.aload_n 0, 1) := by decide +kernel
theorem dX9_tellThing_78 : decode cX9_tellThing 78 = .ok (.getfield 22, 3) := by decide +kernel
theorem dX9_tellThing_81 : decode cX9_tellThing 81 = .ok (.iload_n 1, 1) := by decide +kernel
theorem dX9_tellThing_82 : decode cX9_tellThing 82 = .ok (.iaload, 1) := by decide +kernel
theorem dX9_tellThing_83 : decode cX9_tellThing 83 = .ok (.ireturn, 1) := by decide +kernel
theorem dX9_tellThing_84 : decode cX9_tellThing 84 = .ok (.aload_n 0, 1) := by decide +kernel
theorem dX9_tellThing_85 : decode cX9_tellThing 85 = .ok (.iload_n 1, 1) := by decide +kernel
theorem dX9_tellThing_86 : decode cX9_tellThing 86 = .ok (.invokevirtual 124, 3) := by decide +kernel
theorem dX9_tellThing_89 : decode cX9_tellThing 89 = .ok (.ireturn, 1) := by decide +kernel
theorem dX9_tellThing_90 : decode cX9_tellThing 90 = .ok (.aload_n 0, 1) := by decide +kernel
theorem dX9_tellThing_91 : decode cX9_tellThing 91 = .ok (.getfield 25, 3) := by decide +kernel
theorem dX9_tellThing_94 : decode cX9_tellThing 94 = .ok (.iload_n 1, 1) := by decide +kernel
theorem dX9_tellThing_95 : decode cX9_tellThing 95 = .ok (.iaload, 1) := by decide +kernel
theorem dX9_tellThing_96 : decode cX9_tellThing 96 = .ok (.ireturn, 1) := by decide +kernel
theorem dX9_tellThing_97 : decode cX9_tellThing 97 = .ok (.aload_n 0, 1) := by decide +kernel
theorem dX9_tellThing_98 : decode cX9_tellThing 98 = .ok (.iload_n 1, 1) := by decide +kernel
theorem dX9_tellThing_99 : decode cX9_tellThing 99 = .ok (.invokevirtual 133, 3) := by decide +kernel
theorem dX9_tellThing_102 : decode cX9_tellThing 102 = .ok (.ireturn, 1) := by decide +kernel
theorem dX9_tellThing_103 : decode cX9_tellThing 103 = .ok (.aload_n 0, 1) := by decide +kernel
theorem dX9_tellThing_104 : decode cX9_tellThing 104 = .ok (.iload_n 1, 1) := by decide +kernel
theorem dX9_tellThing_105 : decode cX9_tellThing 105 = .ok (.invokevirtual 136, 3) := by decide +kernel
theorem dX9_tellThing_108 : decode cX9_tellThing 108 = .ok (.ireturn, 1) := by decide +kernel
theorem dX9_tellThing_109 : decode cX9_tellThing 109 = .ok (.aload_n 0, 1) := by decide +kernel
theorem dX9_tellThing_110 : decode cX9_tellThing 110 = .ok (.iload_n 1, 1) := by decide +kernel
theorem dX9_tellThing_111 : decode cX9_tellThing 111 = .ok (.invokevirtual 139, 3) := by decide +kernel
theorem dX9_tellThing_114 : decode cX9_tellThing 114 = .ok (.ireturn, 1) := by decide +kernel
theorem dX9_tellThing_115 : decode cX9_tellThing 115 = .ok (.bipush (-102), 2) := by decide +kernel
theorem dX9_tellThing_117 : decode cX9_tellThing 117 = .ok (.ireturn, 1) := by decide +kernel
set_option maxRecDepth 20000 in
theorem ggX9_thing_X9_isThing : GoodIn wsX9_thing wsX9_isThing := goodIn_r _ [5, 6, 7, 8, 4, 9, 65, 66, 67, 68, 69, 70, 71, 72, 73, 74, 75, 76, 77, 78, 79, 80, 81, 82, 83, 84, 85, 86, 87, 88, 89, 90, 91, 92, 93, 94, 95, 96, 97, 98] (by decide +kernel) (by decide +kernel)
set_option maxRecDepth 20000 in
theorem gX9_thing_X9_isThing : GoodIn wsX9_thing (wsV RX9 142 RX9 yX9_isThing wsX9_isThing) := goodIn_app (goodIn_of _ (by decide +kernel)) ggX9_thing_X9_isThing
set_option maxRecDepth 20000 in
theorem ggX9_thing_X9_tellThing : GoodIn wsX9_thing wsX9_tellThing := goodIn_r _ [13, 14, 15, 16, 17, 18, 19, 20, 21, 4, 22, 23, 24, 25, 26, 27, 28, 29, 30, 31, 32, 33, 34, 35, 36, 37, 38, 39, 40, 41, 42, 43, 44, 45, 46, 47, 48, 49, 50, 51, 52, 53, 54, 55, 6, 56, 57, 58, 59, 60, 61, 62, 63, 64, 65, 66, 67, 68, 69, 70, 71, 72, 73, 74, 75, 76, 77, 78, 79, 80, 81, 82, 83, 84, 85, 86, 87, 88, 89, 90, 91, 92, 93, 94, 95, 96, 97, 98] (by decide +kernel) (by decide +kernel)
set_option maxRecDepth 20000 in
theorem gX9_thing_X9_tellThing : GoodIn wsX9_thing (wsV RX9 145 RX9 yX9_tellThing wsX9_tellThing) := goodIn_app (goodIn_of _ (by decide +kernel)) ggX9_thing_X9_tellThing
theorem dX9_thing_0 : decode cX9_thing 0 = .ok (.aload_n 0, 1) := by decide +kernel
theorem dX9_thing_1 : decode cX9_thing 1 = .ok (.iload_n 1, 1) := by decide +kernel
theorem dX9_thing_2 : decode cX9_thing 2 = .ok (.invokevirtual 142, 3) := by decide +kernel
theorem dX9_thing_5 : decode cX9_thing 5 = .ok (.ifCond .eq 12, 3) := by decide +kernel
theorem dX9_thing_8 : decode cX9_thing 8 = .ok (.aload_n 0, 1) := by decide +kernel
theorem dX9_thing_9 : decode cX9_thing 9 = .ok (.iload_n 1, 1) := by decide +kernel
theorem dX9_thing_10 : decode cX9_thing 10 = .ok (.iload_n 2, 1) := by decide +kernel
theorem dX9_thing_11 : decode cX9_thing 11 = .ok (.invokevirtual 145, 3) := by decide +kernel
theorem dX9_thing_14 : decode cX9_thing 14 = .ok (.goto 5, 3) := by decide +kernel
theorem dX9_thing_17 : decode cX9_thing 17 = .ok (.bipush (-101), 2) := by decide +kernel
theorem dX9_thing_19 : decode cX9_thing 19 = .ok (.ireturn, 1) := by decide +kernel
set_option maxRecDepth 20000 in
theorem ggX9_as_X9_isThing : GoodIn wsX9_as wsX9_isThing := goodIn_r _ [7, 8, 9, 10, 6, 11, 12, 13, 14, 15, 16, 17, 18, 19, 20, 21, 22, 23, 24, 25, 26, 27, 28, 29, 30, 31, 32, 33, 34, 35, 36, 37, 38, 39, 40, 41, 42, 43, 44, 45] (by decide +kernel) (by decide +kernel)
set_option maxRecDepth 20000 in
theorem gX9_as_X9_isThing : GoodIn wsX9_as (wsV RX9 142 RX9 yX9_isThing wsX9_isThing) := goodIn_app (goodIn_of _ (by decide +kernel)) ggX9_as_X9_isThing
set_option maxRecDepth 20000 in
theorem ggX9_as_X9_in : GoodIn wsX9_as wsX9_in := goodIn_r _ [11] (by decide +kernel) (by decide +kernel)
set_option maxRecDepth 20000 in
theorem gX9_as_X9_in : GoodIn wsX9_as (va_wsS RX9 67 yX9_in wsX9_in) := goodIn_app (goodIn_of _ (by decide +kernel)) ggX9_as_X9_in
theorem dX9_as_0 : decode cX9_as 0 = .ok (.aload_n 0, 1) := by decide +kernel
theorem dX9_as_1 : decode cX9_as 1 = .ok (.iload_n 1, 1) := by decide +kernel
theorem dX9_as_2 : decode cX9_as 2 = .ok (.invokevirtual 142, 3) := by decide +kernel
theorem dX9_as_5 : decode cX9_as 5 = .ok (.ifCond .ne 6, 3) := by decide +kernel
theorem dX9_as_8 : decode cX9_as 8 = .ok (.bipush (-101), 2) := by decide +kernel
theorem dX9_as_10 : decode cX9_as 10 = .ok (.ireturn, 1) := by decide +kernel
theorem dX9_as_11 : decode cX9_as 11 = .ok (.iload_n 2, 1) := by decide +kernel
theorem dX9_as_12 : decode cX9_as 12 = .ok (.i2l, 1) := by decide +kernel
theorem dX9_as_13 : decode cX9_as 13 = .ok (.lconst 0, 1) := by decide +kernel
theorem dX9_as_14 : decode cX9_as 14 = .ok (.ldc2_w 149, 3) := by decide +kernel
theorem dX9_as_17 : decode cX9_as 17 = .ok (.invokestatic 67, 3) := by decide +kernel
theorem dX9_as_20 : decode cX9_as 20 = .ok (.ifCond .ne 6, 3) := by decide +kernel
theorem dX9_as_23 : decode cX9_as 23 = .ok (.bipush (-102), 2) := by decide +kernel
theorem dX9_as_25 : decode cX9_as 25 = .ok (.ireturn, 1) := by decide +kernel
theorem dX9_as_26 : decode cX9_as 26 = .ok (.iload_n 2, 1) := by decide +kernel
theorem dX9_as_27 : decode cX9_as 27 = .ok (.ifCond .eq 28, 3) := by decide +kernel
theorem dX9_as_30 : decode cX9_as 30 = .ok (.iload_n 2, 1) := by decide +kernel
theorem dX9_as_31 : decode cX9_as 31 = .ok (.aload_n 0, 1) := by decide +kernel
theorem dX9_as_32 : decode cX9_as 32 = .ok (.getfield 13, 3) := by decide +kernel
theorem dX9_as_35 : decode cX9_as 35 = .ok (.iload_n 1, 1) := by decide +kernel
theorem dX9_as_36 : decode cX9_as 36 = .ok (.iaload, 1) := by decide +kernel
theorem dX9_as_37 : decode cX9_as 37 = .ok (.if_icmp .eq 18, 3) := by decide +kernel
theorem dX9_as_40 : decode cX9_as 40 = .ok (.iload_n 2, 1) := by decide +kernel
theorem dX9_as_41 : decode cX9_as 41 = .ok (.iconst 1, 1) := by decide +kernel
theorem dX9_as_42 : decode cX9_as 42 = .ok (.if_icmp .ne 17, 3) := by decide +kernel
theorem dX9_as_45 : decode cX9_as 45 = .ok (.aload_n 0, 1) := by decide +kernel
theorem dX9_as_46 : decode cX9_as 46 = .ok (.getfield 13, 3) := by decide +kernel
theorem dX9_as_49 : decode cX9_as 49 = .ok (.iload_n 1, 1) := by decide +kernel
theorem dX9_as_50 : decode cX9_as 50 = .ok (.iaload, 1) := by decide +kernel
theorem dX9_as_51 : decode cX9_as 51 = .ok (.iconst 4, 1) := by decide +kernel
theorem dX9_as_52 : decode cX9_as 52 = .ok (.if_icmp .ne 7, 3) := by decide +kernel
theorem dX9_as_55 : decode cX9_as 55 = .ok (.iconst 1, 1) := by decide +kernel
theorem dX9_as_56 : decode cX9_as 56 = .ok (.goto 4, 3) := by decide +kernel
theorem dX9_as_59 : decode cX9_as 59 = .ok (.iconst 0, 1) := by decide +kernel
theorem dX9_as_60 : decode cX9_as 60 = .ok (.istore_n 3, 1) := by decide +kernel
theorem dX9_as_61 : decode cX9_as 61 = .ok (.iload_n 3, 1) := by decide +kernel
theorem dX9_as_62 : decode cX9_as 62 = .ok (.ifCond .eq 7, 3) := by decide +kernel
theorem dX9_as_65 : decode cX9_as 65 = .ok (.iload_n 1, 1) := by decide +kernel
theorem dX9_as_66 : decode cX9_as 66 = .ok (.goto 4, 3) := by decide +kernel
theorem dX9_as_69 : decode cX9_as 69 = .ok (.iconst (-1), 1) := by decide +kernel
theorem dX9_as_70 : decode cX9_as 70 = .ok (.ireturn, 1) := by decide +kernel
set_option maxRecDepth 20000 in
theorem ggX9_touch_X9_isThing : GoodIn wsX9_touch wsX9_isThing := goodIn_r _ [7, 8, 9, 10, 6, 11, 42, 43, 44, 45, 46, 47, 48, 49, 50, 51, 52, 53, 54, 55, 56, 57, 58, 59, 60, 61, 62, 63, 64, 65, 66, 67, 68, 69, 70, 71, 72, 73, 74, 75] (by decide +kernel) (by decide +kernel)
set_option maxRecDepth 20000 in
theorem gX9_touch_X9_isThing : GoodIn wsX9_touch (wsV RX9 142 RX9 yX9_isThing wsX9_isThing) := goodIn_app (goodIn_of _ (by decide +kernel)) ggX9_touch_X9_isThing
set_option maxRecDepth 20000 in
theorem ggX9_touch_X9_begin : GoodIn wsX9_touch wsX9_begin := goodIn_r _ [15, 16, 17, 18, 19, 1, 20, 21, 22, 23, 24, 6, 25, 42, 43, 44, 45, 46, 47, 48, 49, 50, 51, 52, 53, 54, 55, 56, 57, 58, 59, 60, 61, 62, 63, 64, 65, 66, 67, 68, 69, 70, 71, 72, 73, 74, 75] (by decide +kernel) (by decide +kernel)
set_option maxRecDepth 20000 in
theorem gX9_touch_X9_begin : GoodIn wsX9_touch (wsV RX9 130 RX9 yX9_begin wsX9_begin) := goodIn_app (goodIn_of _ (by decide +kernel)) ggX9_touch_X9_begin
set_option maxRecDepth 20000 in
theorem ggX9_touch_X9_touchThen : GoodIn wsX9_touch wsX9_touchThen := goodIn_r _ [29, 17, 19, 42, 43, 44, 45, 46, 47, 48, 49, 50, 51, 52, 53, 54, 55, 56, 57, 58, 59, 60, 61, 62, 63, 64, 65, 66, 67, 68, 69, 70, 71, 72, 73, 74, 75] (by decide +kernel) (by decide +kernel)
set_option maxRecDepth 20000 in
theorem gX9_touch_X9_touchThen : GoodIn wsX9_touch (wsV RX9 151 RX9 yX9_touchThen wsX9_touchThen) := goodIn_app (goodIn_of _ (by decide +kernel)) ggX9_touch_X9_touchThen
set_option maxRecDepth 20000 in
theorem ggX9_touch_X9_keep : GoodIn wsX9_touch wsX9_keep := goodIn_r _ [33, 17, 16, 19, 18, 20, 1, 22, 21, 23, 24, 6, 25, 42, 43, 44, 45, 46, 47, 48, 49, 50, 51, 52, 53, 54, 55, 56, 57, 58, 59, 60, 61, 62, 63, 64, 65, 66, 67, 68, 69, 70, 71, 72, 73, 74, 75] (by decide +kernel) (by decide +kernel)
set_option maxRecDepth 20000 in
theorem gX9_touch_X9_keep : GoodIn wsX9_touch (wsV RX9 155 RX9 yX9_keep wsX9_keep) := goodIn_app (goodIn_of _ (by decide +kernel)) ggX9_touch_X9_keep
set_option maxRecDepth 20000 in
theorem ggX9_touch_X9_missedThen : GoodIn wsX9_touch wsX9_missedThen := goodIn_r _ [37, 38, 17, 19, 39, 40, 6, 41, 42, 43, 44, 45, 46, 47, 48, 49, 50, 51, 52, 53, 54, 55, 56, 57, 58, 59, 60, 61, 62, 63, 64, 65, 66, 67, 68, 69, 70, 71, 72, 73, 74, 75] (by decide +kernel) (by decide +kernel)
set_option maxRecDepth 20000 in
theorem gX9_touch_X9_missedThen : GoodIn wsX9_touch (wsV RX9 124 RX9 yX9_missedThen wsX9_missedThen) := goodIn_app (goodIn_of _ (by decide +kernel)) ggX9_touch_X9_missedThen
theorem dX9_touch_0 : decode cX9_touch 0 = .ok (.aload_n 0, 1) := by decide +kernel
theorem dX9_touch_1 : decode cX9_touch 1 = .ok (.iload_n 1, 1) := by decide +kernel
theorem dX9_touch_2 : decode cX9_touch 2 = .ok (.invokevirtual 142, 3) := by decide +kernel
theorem dX9_touch_5 : decode cX9_touch 5 = .ok (.ifCond .ne 6, 3) := by decide +kernel
theorem dX9_touch_8 : decode cX9_touch 8 = .ok (.bipush (-101), 2) := by decide +kernel
theorem dX9_touch_10 : decode cX9_touch 10 = .ok (.ireturn, 1) := by decide +kernel
theorem dX9_touch_11 : decode cX9_touch 11 = .ok (.aload_n 0, 1) := by decide +kernel
theorem dX9_touch_12 : decode cX9_touch 12 = .ok (.getfield 25, 3) := by decide +kernel
theorem dX9_touch_15 : decode cX9_touch 15 = .ok (.iload_n 1, 1) := by decide +kernel
theorem dX9_touch_16 : decode cX9_touch 16 = .ok (.iaload, 1) := by decide +kernel
theorem dX9_touch_17 : decode cX9_touch 17 = .ok (.iconst 1, 1) := by decide +kernel
theorem dX9_touch_18 : decode cX9_touch 18 = .ok (.if_icmp .ne 6, 3) := by decide +kernel
theorem dX9_touch_21 : decode cX9_touch 21 = .ok (.bipush (-103), 2) := by decide +kernel
theorem dX9_touch_23 : decode cX9_touch 23 = .ok (.ireturn, 1) := by decide +kernel
theorem dX9_touch_24 : decode cX9_touch 24 = .ok (.aload_n 0, 1) := by decide +kernel
theorem dX9_touch_25 : decode cX9_touch 25 = .ok (.getfield 104, 3) := by decide +kernel
theorem dX9_touch_28 : decode cX9_touch 28 = .ok (.sipush 999, 3) := by decide +kernel
theorem dX9_touch_31 : decode cX9_touch 31 = .ok (.if_icmp .ne 6, 3) := by decide +kernel
theorem dX9_touch_34 : decode cX9_touch 34 = .ok (.bipush (-104), 2) := by decide +kernel
theorem dX9_touch_36 : decode cX9_touch 36 = .ok (.ireturn, 1) := by decide +kernel
theorem dX9_touch_37 : decode cX9_touch 37 = .ok (.aload_n 0, 1) := by decide +kernel
theorem dX9_touch_38 : decode cX9_touch 38 = .ok (.invokevirtual 130, 3) := by decide +kernel
theorem dX9_touch_41 : decode cX9_touch 41 = .ok (.aload_n 0, 1) := by decide +kernel
theorem dX9_touch_42 : decode cX9_touch 42 = .ok (.iload_n 1, 1) := by decide +kernel
theorem dX9_touch_43 : decode cX9_touch 43 = .ok (.invokevirtual 151, 3) := by decide +kernel
theorem dX9_touch_46 : decode cX9_touch 46 = .ok (.aload_n 0, 1) := by decide +kernel
theorem dX9_touch_47 : decode cX9_touch 47 = .ok (.invokevirtual 155, 3) := by decide +kernel
theorem dX9_touch_50 : decode cX9_touch 50 = .ok (.aload_n 0, 1) := by decide +kernel
theorem dX9_touch_51 : decode cX9_touch 51 = .ok (.dup, 1) := by decide +kernel
theorem dX9_touch_52 : decode cX9_touch 52 = .ok (.getfield 104, 3) := by decide +kernel
theorem dX9_touch_55 : decode cX9_touch 55 = .ok (.iconst 1, 1) := by decide +kernel
theorem dX9_touch_56 : decode cX9_touch 56 = .ok (.iadd, 1) := by decide +kernel
theorem dX9_touch_57 : decode cX9_touch 57 = .ok (.putfield 104, 3) := by decide +kernel
theorem dX9_touch_60 : decode cX9_touch 60 = .ok (.aload_n 0, 1) := by decide +kernel
theorem dX9_touch_61 : decode cX9_touch 61 = .ok (.iload_n 1, 1) := by decide +kernel
theorem dX9_touch_62 : decode cX9_touch 62 = .ok (.invokevirtual 124, 3) := by decide +kernel
theorem dX9_touch_65 : decode cX9_touch 65 = .ok (.ireturn, 1) := by decide +kernel
set_option maxRecDepth 20000 in
theorem ggX9_day_X9_lacks : GoodIn wsX9_day wsX9_lacks := goodIn_r _ [6, 7, 31, 32, 33, 34, 35, 36, 37, 38, 39, 40, 41, 42, 43, 44, 45, 46, 47, 48, 49, 50, 51, 52, 53, 54, 55, 56, 57, 58, 59, 60, 61, 62, 63, 64] (by decide +kernel) (by decide +kernel)
set_option maxRecDepth 20000 in
theorem gX9_day_X9_lacks : GoodIn wsX9_day (wsV RX9 158 RX9 yX9_lacks wsX9_lacks) := goodIn_app (goodIn_of _ (by decide +kernel)) ggX9_day_X9_lacks
set_option maxRecDepth 20000 in
theorem ggX9_day_X9_begin : GoodIn wsX9_day wsX9_begin := goodIn_r _ [11, 12, 13, 14, 15, 16, 17, 18, 19, 20, 21, 5, 22, 31, 32, 33, 34, 35, 36, 37, 38, 39, 40, 41, 42, 43, 44, 45, 46, 47, 48, 49, 50, 51, 52, 53, 54, 55, 56, 57, 58, 59, 60, 61, 62, 63, 64] (by decide +kernel) (by decide +kernel)
set_option maxRecDepth 20000 in
theorem gX9_day_X9_begin : GoodIn wsX9_day (wsV RX9 130 RX9 yX9_begin wsX9_begin) := goodIn_app (goodIn_of _ (by decide +kernel)) ggX9_day_X9_begin
set_option maxRecDepth 20000 in
theorem ggX9_day_X9_dayThen : GoodIn wsX9_day wsX9_dayThen := goodIn_r _ [26, 7, 15, 17, 31, 32, 33, 34, 35, 36, 37, 38, 39, 40, 41, 42, 43, 44, 45, 46, 47, 48, 49, 50, 51, 52, 53, 54, 55, 56, 57, 58, 59, 60, 61, 62, 63, 64] (by decide +kernel) (by decide +kernel)
set_option maxRecDepth 20000 in
theorem gX9_day_X9_dayThen : GoodIn wsX9_day (wsV RX9 162 RX9 yX9_dayThen wsX9_dayThen) := goodIn_app (goodIn_of _ (by decide +kernel)) ggX9_day_X9_dayThen
set_option maxRecDepth 20000 in
theorem ggX9_day_X9_keep : GoodIn wsX9_day wsX9_keep := goodIn_r _ [30, 13, 12, 15, 14, 17, 16, 19, 18, 20, 21, 5, 22, 31, 32, 33, 34, 35, 36, 37, 38, 39, 40, 41, 42, 43, 44, 45, 46, 47, 48, 49, 50, 51, 52, 53, 54, 55, 56, 57, 58, 59, 60, 61, 62, 63, 64] (by decide +kernel) (by decide +kernel)
set_option maxRecDepth 20000 in
theorem gX9_day_X9_keep : GoodIn wsX9_day (wsV RX9 155 RX9 yX9_keep wsX9_keep) := goodIn_app (goodIn_of _ (by decide +kernel)) ggX9_day_X9_keep
theorem dX9_day_0 : decode cX9_day 0 = .ok (.aload_n 0, 1) := by decide +kernel
theorem dX9_day_1 : decode cX9_day 1 = .ok (.invokevirtual 158, 3) := by decide +kernel
theorem dX9_day_4 : decode cX9_day 4 = .ok (.ifCond .eq 6, 3) := by decide +kernel
theorem dX9_day_7 : decode cX9_day 7 = .ok (.bipush (-103), 2) := by decide +kernel
theorem dX9_day_9 : decode cX9_day 9 = .ok (.ireturn, 1) := by decide +kernel
theorem dX9_day_10 : decode cX9_day 10 = .ok (.aload_n 0, 1) := by decide +kernel
theorem dX9_day_11 : decode cX9_day 11 = .ok (.getfield 101, 3) := by decide +kernel
theorem dX9_day_14 : decode cX9_day 14 = .ok (.sipush 999, 3) := by decide +kernel
theorem dX9_day_17 : decode cX9_day 17 = .ok (.if_icmp .ne 6, 3) := by decide +kernel
theorem dX9_day_20 : decode cX9_day 20 = .ok (.bipush (-104), 2) := by decide +kernel
theorem dX9_day_22 : decode cX9_day 22 = .ok (.ireturn, 1) := by decide +kernel
theorem dX9_day_23 : decode cX9_day 23 = .ok (.aload_n 0, 1) := by decide +kernel
theorem dX9_day_24 : decode cX9_day 24 = .ok (.invokevirtual 130, 3) := by decide +kernel
theorem dX9_day_27 : decode cX9_day 27 = .ok (.aload_n 0, 1) := by decide +kernel
theorem dX9_day_28 : decode cX9_day 28 = .ok (.invokevirtual 162, 3) := by decide +kernel
theorem dX9_day_31 : decode cX9_day 31 = .ok (.aload_n 0, 1) := by decide +kernel
theorem dX9_day_32 : decode cX9_day 32 = .ok (.invokevirtual 155, 3) := by decide +kernel
theorem dX9_day_35 : decode cX9_day 35 = .ok (.aload_n 0, 1) := by decide +kernel
theorem dX9_day_36 : decode cX9_day 36 = .ok (.dup, 1) := by decide +kernel
theorem dX9_day_37 : decode cX9_day 37 = .ok (.getfield 101, 3) := by decide +kernel
theorem dX9_day_40 : decode cX9_day 40 = .ok (.iconst 1, 1) := by decide +kernel
theorem dX9_day_41 : decode cX9_day 41 = .ok (.iadd, 1) := by decide +kernel
theorem dX9_day_42 : decode cX9_day 42 = .ok (.putfield 101, 3) := by decide +kernel
theorem dX9_day_45 : decode cX9_day 45 = .ok (.aload_n 0, 1) := by decide +kernel
theorem dX9_day_46 : decode cX9_day 46 = .ok (.getfield 101, 3) := by decide +kernel
theorem dX9_day_49 : decode cX9_day 49 = .ok (.ireturn, 1) := by decide +kernel
