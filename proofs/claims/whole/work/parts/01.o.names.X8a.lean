set_option maxRecDepth 20000 in
theorem ggX8_init_X5_init : GoodIn wsX8_init wsX5_init := goodIn_r _ [39, 40, 2, 3, 41, 42, 82, 83] (by decide +kernel) (by decide +kernel)
set_option maxRecDepth 20000 in
theorem gX8_init_X5_init_n9 : GoodIn wsX8_init (wsX5_init) := ggX8_init_X5_init
set_option maxRecDepth 20000 in
theorem ggX8_init_X3_init : GoodIn wsX8_init wsX3_init := goodIn_r _ [44, 45, 2, 3, 41, 46, 47, 48, 49, 97, 98, 99, 100, 101, 102, 103, 104, 105] (by decide +kernel) (by decide +kernel)
set_option maxRecDepth 20000 in
theorem gX8_init_X3_init_n18 : GoodIn wsX8_init (wsX3_init) := ggX8_init_X3_init
set_option maxRecDepth 20000 in
theorem ggX8_init_X7_init : GoodIn wsX8_init wsX7_init := goodIn_r _ [51, 52, 2, 3, 41, 53, 54, 55, 56, 106, 107, 108, 109, 110] (by decide +kernel) (by decide +kernel)
set_option maxRecDepth 20000 in
theorem gX8_init_X7_init_n28 : GoodIn wsX8_init (wsX7_init) := ggX8_init_X7_init
set_option maxRecDepth 20000 in
theorem ggX8_init_X6_init : GoodIn wsX8_init wsX6_init := goodIn_r _ [58, 59, 2, 3, 60, 9, 10, 61, 41, 62, 63, 43, 44, 45, 46, 47, 48, 49, 97, 98, 99, 100, 101, 102, 103, 104, 105, 111, 112, 113, 114, 115, 116] (by decide +kernel) (by decide +kernel)
set_option maxRecDepth 20000 in
theorem gX8_init_X6_init_n38 : GoodIn wsX8_init (wsX6_init) := ggX8_init_X6_init
set_option maxRecDepth 20000 in
theorem ggX8_init_X4_init : GoodIn wsX8_init wsX4_init := goodIn_r _ [65, 66, 2, 3] (by decide +kernel) (by decide +kernel)
set_option maxRecDepth 20000 in
theorem gX8_init_X4_init_n45 : GoodIn wsX8_init (wsX4_init) := ggX8_init_X4_init
set_option maxRecDepth 20000 in
theorem ggX8_init_X2_init : GoodIn wsX8_init wsX2_init := goodIn_r _ [68, 69, 2, 3, 70, 9, 10, 71, 43, 44, 45, 41, 46, 47, 48, 49, 97, 98, 99, 100, 101, 102, 103, 104, 105, 120, 121, 122] (by decide +kernel) (by decide +kernel)
set_option maxRecDepth 20000 in
theorem gX8_init_X2_init_n52 : GoodIn wsX8_init (wsX2_init) := ggX8_init_X2_init
set_option maxRecDepth 20000 in
theorem ggX8_init_X0_init : GoodIn wsX8_init wsX0_init := goodIn_r _ [73, 74, 2, 3, 41, 75, 76, 123, 124, 125] (by decide +kernel) (by decide +kernel)
set_option maxRecDepth 20000 in
theorem gX8_init_X0_init_n59 : GoodIn wsX8_init (wsX0_init) := ggX8_init_X0_init
set_option maxRecDepth 20000 in
theorem ggX8_init_X1_init : GoodIn wsX8_init wsX1_init := goodIn_r _ [78, 79, 2, 3, 80, 9, 10, 81, 43, 44, 45, 41, 46, 47, 48, 49, 97, 98, 99, 100, 101, 102, 103, 104, 105, 126, 127, 128, 129] (by decide +kernel) (by decide +kernel)
set_option maxRecDepth 20000 in
theorem gX8_init_X1_init_n66 : GoodIn wsX8_init (wsX1_init) := ggX8_init_X1_init
theorem dX8_init_0 : decode cX8_init 0 = .ok (.aload_n 0, 1) := by decide +kernel
theorem dX8_init_1 : decode cX8_init 1 = .ok (.invokespecial 1, 3) := by decide +kernel
theorem dX8_init_4 : decode cX8_init 4 = .ok (.aload_n 0, 1) := by decide +kernel
theorem dX8_init_5 : decode cX8_init 5 = .ok (.new 7, 3) := by decide +kernel
theorem dX8_init_8 : decode cX8_init 8 = .ok (.dup, 1) := by decide +kernel
theorem dX8_init_9 : decode cX8_init 9 = .ok (.invokespecial 9, 3) := by decide +kernel
theorem dX8_init_12 : decode cX8_init 12 = .ok (.putfield 10, 3) := by decide +kernel
theorem dX8_init_15 : decode cX8_init 15 = .ok (.aload_n 0, 1) := by decide +kernel
theorem dX8_init_16 : decode cX8_init 16 = .ok (.new 16, 3) := by decide +kernel
theorem dX8_init_19 : decode cX8_init 19 = .ok (.dup, 1) := by decide +kernel
theorem dX8_init_20 : decode cX8_init 20 = .ok (.invokespecial 18, 3) := by decide +kernel
theorem dX8_init_23 : decode cX8_init 23 = .ok (.putfield 19, 3) := by decide +kernel
theorem dX8_init_26 : decode cX8_init 26 = .ok (.aload_n 0, 1) := by decide +kernel
theorem dX8_init_27 : decode cX8_init 27 = .ok (.new 16, 3) := by decide +kernel
theorem dX8_init_30 : decode cX8_init 30 = .ok (.dup, 1) := by decide +kernel
theorem dX8_init_31 : decode cX8_init 31 = .ok (.invokespecial 18, 3) := by decide +kernel
theorem dX8_init_34 : decode cX8_init 34 = .ok (.putfield 23, 3) := by decide +kernel
theorem dX8_init_37 : decode cX8_init 37 = .ok (.aload_n 0, 1) := by decide +kernel
theorem dX8_init_38 : decode cX8_init 38 = .ok (.new 26, 3) := by decide +kernel
theorem dX8_init_41 : decode cX8_init 41 = .ok (.dup, 1) := by decide +kernel
theorem dX8_init_42 : decode cX8_init 42 = .ok (.invokespecial 28, 3) := by decide +kernel
theorem dX8_init_45 : decode cX8_init 45 = .ok (.putfield 29, 3) := by decide +kernel
theorem dX8_init_48 : decode cX8_init 48 = .ok (.aload_n 0, 1) := by decide +kernel
theorem dX8_init_49 : decode cX8_init 49 = .ok (.new 26, 3) := by decide +kernel
theorem dX8_init_52 : decode cX8_init 52 = .ok (.dup, 1) := by decide +kernel
theorem dX8_init_53 : decode cX8_init 53 = .ok (.invokespecial 28, 3) := by decide +kernel
theorem dX8_init_56 : decode cX8_init 56 = .ok (.putfield 33, 3) := by decide +kernel
theorem dX8_init_59 : decode cX8_init 59 = .ok (.aload_n 0, 1) := by decide +kernel
theorem dX8_init_60 : decode cX8_init 60 = .ok (.new 36, 3) := by decide +kernel
theorem dX8_init_63 : decode cX8_init 63 = .ok (.dup, 1) := by decide +kernel
theorem dX8_init_64 : decode cX8_init 64 = .ok (.invokespecial 38, 3) := by decide +kernel
theorem dX8_init_67 : decode cX8_init 67 = .ok (.putfield 39, 3) := by decide +kernel
theorem dX8_init_70 : decode cX8_init 70 = .ok (.aload_n 0, 1) := by decide +kernel
theorem dX8_init_71 : decode cX8_init 71 = .ok (.new 43, 3) := by decide +kernel
theorem dX8_init_74 : decode cX8_init 74 = .ok (.dup, 1) := by decide +kernel
theorem dX8_init_75 : decode cX8_init 75 = .ok (.invokespecial 45, 3) := by decide +kernel
theorem dX8_init_78 : decode cX8_init 78 = .ok (.putfield 46, 3) := by decide +kernel
theorem dX8_init_81 : decode cX8_init 81 = .ok (.aload_n 0, 1) := by decide +kernel
theorem dX8_init_82 : decode cX8_init 82 = .ok (.new 50, 3) := by decide +kernel
theorem dX8_init_85 : decode cX8_init 85 = .ok (.dup, 1) := by decide +kernel
theorem dX8_init_86 : decode cX8_init 86 = .ok (.invokespecial 52, 3) := by decide +kernel
theorem dX8_init_89 : decode cX8_init 89 = .ok (.putfield 53, 3) := by decide +kernel
theorem dX8_init_92 : decode cX8_init 92 = .ok (.aload_n 0, 1) := by decide +kernel
theorem dX8_init_93 : decode cX8_init 93 = .ok (.new 57, 3) := by decide +kernel
theorem dX8_init_96 : decode cX8_init 96 = .ok (.dup, 1) := by decide +kernel
theorem dX8_init_97 : decode cX8_init 97 = .ok (.invokespecial 59, 3) := by decide +kernel
theorem dX8_init_100 : decode cX8_init 100 = .ok (.putfield 60, 3) := by decide +kernel
theorem dX8_init_103 : decode cX8_init 103 = .ok (.aload_n 0, 1) := by decide +kernel
theorem dX8_init_104 : decode cX8_init 104 = .ok (.new 64, 3) := by decide +kernel
theorem dX8_init_107 : decode cX8_init 107 = .ok (.dup, 1) := by decide +kernel
theorem dX8_init_108 : decode cX8_init 108 = .ok (.invokespecial 66, 3) := by decide +kernel
theorem dX8_init_111 : decode cX8_init 111 = .ok (.putfield 67, 3) := by decide +kernel
theorem dX8_init_114 : decode cX8_init 114 = .ok (.return_, 1) := by decide +kernel
set_option maxRecDepth 20000 in
theorem ggX8_letter_X5_add : GoodIn wsX8_letter wsX5_add := goodIn_r _ [7, 8, 9, 23, 24] (by decide +kernel) (by decide +kernel)
set_option maxRecDepth 20000 in
theorem gX8_letter_X5_add : GoodIn wsX8_letter (wsV RX8 71 RX5 yX5_add wsX5_add) := goodIn_app (goodIn_of _ (by decide +kernel)) ggX8_letter_X5_add
theorem dX8_letter_0 : decode cX8_letter 0 = .ok (.iload_n 1, 1) := by decide +kernel
theorem dX8_letter_1 : decode cX8_letter 1 = .ok (.iconst 1, 1) := by decide +kernel
theorem dX8_letter_2 : decode cX8_letter 2 = .ok (.if_icmp .lt 9, 3) := by decide +kernel
theorem dX8_letter_5 : decode cX8_letter 5 = .ok (.iload_n 1, 1) := by decide +kernel
theorem dX8_letter_6 : decode cX8_letter 6 = .ok (.bipush 126, 2) := by decide +kernel
theorem dX8_letter_8 : decode cX8_letter 8 = .ok (.if_icmp .le 6, 3) := by decide +kernel
theorem dX8_letter_11 : decode cX8_letter 11 = .ok (.bipush (-102), 2) := by decide +kernel
theorem dX8_letter_13 : decode cX8_letter 13 = .ok (.ireturn, 1) := by decide +kernel
theorem dX8_letter_14 : decode cX8_letter 14 = .ok (.aload_n 0, 1) := by decide +kernel
theorem dX8_letter_15 : decode cX8_letter 15 = .ok (.getfield 10, 3) := by decide +kernel
theorem dX8_letter_18 : decode cX8_letter 18 = .ok (.iload_n 1, 1) := by decide +kernel
theorem dX8_letter_19 : decode cX8_letter 19 = .ok (.invokevirtual 71, 3) := by decide +kernel
theorem dX8_letter_22 : decode cX8_letter 22 = .ok (.ifCond .eq 13, 3) := by decide +kernel
theorem dX8_letter_25 : decode cX8_letter 25 = .ok (.aload_n 0, 1) := by decide +kernel
theorem dX8_letter_26 : decode cX8_letter 26 = .ok (.getfield 10, 3) := by decide +kernel
theorem dX8_letter_29 : decode cX8_letter 29 = .ok (.getfield 75, 3) := by decide +kernel
theorem dX8_letter_32 : decode cX8_letter 32 = .ok (.goto 5, 3) := by decide +kernel
theorem dX8_letter_35 : decode cX8_letter 35 = .ok (.bipush (-104), 2) := by decide +kernel
theorem dX8_letter_37 : decode cX8_letter 37 = .ok (.ireturn, 1) := by decide +kernel
theorem dX8_blank_0 : decode cX8_blank 0 = .ok (.aload_n 0, 1) := by decide +kernel
theorem dX8_blank_1 : decode cX8_blank 1 = .ok (.getfield 10, 3) := by decide +kernel
theorem dX8_blank_4 : decode cX8_blank 4 = .ok (.getfield 75, 3) := by decide +kernel
theorem dX8_blank_7 : decode cX8_blank 7 = .ok (.istore_n 1, 1) := by decide +kernel
theorem dX8_blank_8 : decode cX8_blank 8 = .ok (.aload_n 0, 1) := by decide +kernel
theorem dX8_blank_9 : decode cX8_blank 9 = .ok (.getfield 10, 3) := by decide +kernel
theorem dX8_blank_12 : decode cX8_blank 12 = .ok (.iconst 0, 1) := by decide +kernel
theorem dX8_blank_13 : decode cX8_blank 13 = .ok (.putfield 75, 3) := by decide +kernel
theorem dX8_blank_16 : decode cX8_blank 16 = .ok (.iload_n 1, 1) := by decide +kernel
theorem dX8_blank_17 : decode cX8_blank 17 = .ok (.ireturn, 1) := by decide +kernel
set_option maxRecDepth 20000 in
theorem ggX8_fault_X5_firstFault : GoodIn wsX8_fault wsX5_firstFault := goodIn_r _ [6, 7, 8, 9, 10, 11, 5, 12, 13, 14, 15, 16, 17, 18, 19, 20, 21, 22, 23, 24, 25, 26, 27, 28, 29, 30, 31, 32, 33, 34, 35, 36, 37, 38, 39, 40, 41, 42, 43, 44, 45, 46, 47, 48, 49, 50, 51, 52, 53, 54, 55, 56, 57, 58, 59, 60, 61, 62, 63, 64, 65, 66, 67, 68, 69, 70, 71, 72, 73, 74, 75, 76, 77, 78, 79, 80, 81, 82, 83, 84, 85, 86, 87, 88, 89, 90, 91, 92, 93, 94, 95, 96, 97, 98, 99, 100, 101, 102, 103, 104, 105, 106, 107, 108, 109, 110, 111, 125, 126] (by decide +kernel) (by decide +kernel)
set_option maxRecDepth 20000 in
theorem gX8_fault_X5_firstFault : GoodIn wsX8_fault (wsV RX8 79 RX5 yX5_firstFault wsX5_firstFault) := goodIn_app (goodIn_of _ (by decide +kernel)) ggX8_fault_X5_firstFault
theorem dX8_fault_0 : decode cX8_fault 0 = .ok (.aload_n 0, 1) := by decide +kernel
theorem dX8_fault_1 : decode cX8_fault 1 = .ok (.getfield 10, 3) := by decide +kernel
theorem dX8_fault_4 : decode cX8_fault 4 = .ok (.invokevirtual 79, 3) := by decide +kernel
theorem dX8_fault_7 : decode cX8_fault 7 = .ok (.ireturn, 1) := by decide +kernel
set_option maxRecDepth 20000 in
theorem ggX8_house_X5_isHouse : GoodIn wsX8_house wsX5_isHouse := goodIn_r _ [13, 14, 15, 16, 17, 18, 12, 19, 20, 21, 22, 23, 24, 25, 26, 27, 28, 29, 30, 31, 32, 33, 34, 35, 36, 37, 38, 39, 40, 41, 42, 43, 44, 45, 46, 47, 48, 49, 50, 51, 52, 53, 54, 55, 56, 57, 58, 59, 60, 61, 62, 63, 64, 65, 66, 67, 68, 69, 70, 71, 72, 73, 74, 75, 76, 77, 78, 79, 80, 81, 82, 83, 84, 85, 86, 87, 88, 89, 90, 91, 92, 93, 94, 95, 96, 97, 98, 99, 100, 101, 102, 103, 104, 105, 106, 107, 108, 109, 110, 111, 112, 113, 114, 115, 116, 117, 118, 119, 120, 121, 122, 150, 151] (by decide +kernel) (by decide +kernel)
set_option maxRecDepth 20000 in
theorem gX8_house_X5_isHouse : GoodIn wsX8_house (wsV RX8 83 RX5 yX5_isHouse wsX5_isHouse) := goodIn_app (goodIn_of _ (by decide +kernel)) ggX8_house_X5_isHouse
set_option maxRecDepth 20000 in
theorem ggX8_house_X5_readInto : GoodIn wsX8_house wsX5_readInto := goodIn_r _ [126, 14, 127, 57, 54, 58, 128, 129, 15, 130, 131, 132, 133, 134, 135, 136, 24, 25, 26, 27, 28, 29, 30, 31, 32, 33, 34, 35, 36, 37, 38, 39, 40, 41, 42, 43, 44, 45, 46, 47, 48, 49, 50, 51, 52, 53, 55, 56, 59, 60, 61, 62, 63, 64, 65, 66, 67, 68, 69, 70, 71, 72, 73, 74, 75, 76, 77, 78, 79, 80, 81, 82, 83, 84, 85, 86, 87, 88, 89, 90, 91, 92, 93, 94, 95, 96, 97, 98, 99, 100, 101, 102, 103, 104, 105, 106, 107, 108, 109, 110, 111, 112, 150, 151, 157, 158, 159, 160, 161, 162, 163, 164, 165] (by decide +kernel) (by decide +kernel)
set_option maxRecDepth 20000 in
theorem gX8_house_X5_readInto : GoodIn wsX8_house (wsV RX8 87 RX5 yX5_readInto wsX5_readInto) := goodIn_app (goodIn_of _ (by decide +kernel)) ggX8_house_X5_readInto
theorem dX8_house_0 : decode cX8_house 0 = .ok (.aload_n 0, 1) := by decide +kernel
theorem dX8_house_1 : decode cX8_house 1 = .ok (.getfield 10, 3) := by decide +kernel
theorem dX8_house_4 : decode cX8_house 4 = .ok (.invokevirtual 83, 3) := by decide +kernel
theorem dX8_house_7 : decode cX8_house 7 = .ok (.ifCond .ne 6, 3) := by decide +kernel
theorem dX8_house_10 : decode cX8_house 10 = .ok (.bipush (-103), 2) := by decide +kernel
theorem dX8_house_12 : decode cX8_house 12 = .ok (.ireturn, 1) := by decide +kernel
theorem dX8_house_13 : decode cX8_house 13 = .ok (.aload_n 0, 1) := by decide +kernel
theorem dX8_house_14 : decode cX8_house 14 = .ok (.getfield 10, 3) := by decide +kernel
theorem dX8_house_17 : decode cX8_house 17 = .ok (.aload_n 0, 1) := by decide +kernel
theorem dX8_house_18 : decode cX8_house 18 = .ok (.getfield 19, 3) := by decide +kernel
theorem dX8_house_21 : decode cX8_house 21 = .ok (.invokevirtual 87, 3) := by decide +kernel
theorem dX8_house_24 : decode cX8_house 24 = .ok (.aload_n 0, 1) := by decide +kernel
theorem dX8_house_25 : decode cX8_house 25 = .ok (.getfield 10, 3) := by decide +kernel
theorem dX8_house_28 : decode cX8_house 28 = .ok (.iconst 0, 1) := by decide +kernel
theorem dX8_house_29 : decode cX8_house 29 = .ok (.putfield 75, 3) := by decide +kernel
theorem dX8_house_32 : decode cX8_house 32 = .ok (.aload_n 0, 1) := by decide +kernel
theorem dX8_house_33 : decode cX8_house 33 = .ok (.getfield 29, 3) := by decide +kernel
theorem dX8_house_36 : decode cX8_house 36 = .ok (.iconst 0, 1) := by decide +kernel
theorem dX8_house_37 : decode cX8_house 37 = .ok (.putfield 91, 3) := by decide +kernel
theorem dX8_house_40 : decode cX8_house 40 = .ok (.aload_n 0, 1) := by decide +kernel
theorem dX8_house_41 : decode cX8_house 41 = .ok (.iconst 0, 1) := by decide +kernel
theorem dX8_house_42 : decode cX8_house 42 = .ok (.putfield 92, 3) := by decide +kernel
theorem dX8_house_45 : decode cX8_house 45 = .ok (.aload_n 0, 1) := by decide +kernel
theorem dX8_house_46 : decode cX8_house 46 = .ok (.dup, 1) := by decide +kernel
theorem dX8_house_47 : decode cX8_house 47 = .ok (.getfield 96, 3) := by decide +kernel
theorem dX8_house_50 : decode cX8_house 50 = .ok (.iconst 1, 1) := by decide +kernel
theorem dX8_house_51 : decode cX8_house 51 = .ok (.iadd, 1) := by decide +kernel
theorem dX8_house_52 : decode cX8_house 52 = .ok (.putfield 96, 3) := by decide +kernel
theorem dX8_house_55 : decode cX8_house 55 = .ok (.aload_n 0, 1) := by decide +kernel
theorem dX8_house_56 : decode cX8_house 56 = .ok (.getfield 19, 3) := by decide +kernel
theorem dX8_house_59 : decode cX8_house 59 = .ok (.getfield 99, 3) := by decide +kernel
theorem dX8_house_62 : decode cX8_house 62 = .ok (.ireturn, 1) := by decide +kernel
set_option maxRecDepth 20000 in
theorem ggX8_thing_X3_has : GoodIn wsX8_thing wsX3_has := goodIn_r _ [13, 14, 116, 117, 118, 119, 120, 121, 122, 123, 124] (by decide +kernel) (by decide +kernel)
set_option maxRecDepth 20000 in
theorem gX8_thing_X3_has : GoodIn wsX8_thing (wsV RX8 100 RX3 yX3_has wsX3_has) := goodIn_app (goodIn_of _ (by decide +kernel)) ggX8_thing_X3_has
set_option maxRecDepth 20000 in
theorem ggX8_thing_X3_missedBehind : GoodIn wsX8_thing wsX3_missedBehind := goodIn_r _ [18, 19, 20, 21, 22, 23, 12, 24, 25, 26, 27, 28, 29, 30, 31, 32, 33, 34, 35, 36, 37, 38, 116, 117, 118, 119, 120, 121, 122, 123, 124] (by decide +kernel) (by decide +kernel)
set_option maxRecDepth 20000 in
theorem gX8_thing_X3_missedBehind : GoodIn wsX8_thing (wsV RX8 116 RX3 yX3_missedBehind wsX3_missedBehind) := goodIn_app (goodIn_of _ (by decide +kernel)) ggX8_thing_X3_missedBehind
set_option maxRecDepth 20000 in
theorem ggX8_thing_X8_isIn : GoodIn wsX8_thing wsX8_isIn := goodIn_r _ [33] (by decide +kernel) (by decide +kernel)
set_option maxRecDepth 20000 in
theorem gX8_thing_X8_isIn : GoodIn wsX8_thing (va_wsS RX8 123 yX8_isIn wsX8_isIn) := goodIn_app (goodIn_of _ (by decide +kernel)) ggX8_thing_X8_isIn
set_option maxRecDepth 20000 in
theorem ggX8_thing_X7_looksOf : GoodIn wsX8_thing wsX7_looksOf := goodIn_r _ [44, 45, 46, 47, 43, 48, 49, 50, 51, 52, 53, 54, 22, 23, 12, 24, 25, 26, 27, 28, 29, 30, 31, 32, 33, 34, 35, 36, 37, 38, 125, 126, 127, 128, 129, 116, 117, 118, 119, 120, 121, 122, 123, 124] (by decide +kernel) (by decide +kernel)
set_option maxRecDepth 20000 in
theorem gX8_thing_X7_looksOf : GoodIn wsX8_thing (wsV RX8 127 RX7 yX7_looksOf wsX7_looksOf) := goodIn_app (goodIn_of _ (by decide +kernel)) ggX8_thing_X7_looksOf
set_option maxRecDepth 20000 in
theorem ggX8_thing_X7_watchOf : GoodIn wsX8_thing wsX7_watchOf := goodIn_r _ [58, 51, 59, 41, 42, 43, 44, 45, 46, 47, 48, 49, 50, 52, 53, 54, 22, 23, 12, 24, 25, 26, 27, 28, 29, 30, 31, 32, 33, 34, 35, 36, 37, 38, 60, 61, 62, 63, 64, 65, 116, 117, 118, 119, 120, 121, 122, 123, 124, 125, 126, 127, 128, 129] (by decide +kernel) (by decide +kernel)
set_option maxRecDepth 20000 in
theorem gX8_thing_X7_watchOf : GoodIn wsX8_thing (wsV RX8 131 RX7 yX7_watchOf wsX7_watchOf) := goodIn_app (goodIn_of _ (by decide +kernel)) ggX8_thing_X7_watchOf
set_option maxRecDepth 20000 in
theorem ggX8_thing_X0_buyerOf : GoodIn wsX8_thing wsX0_buyerOf := goodIn_r _ [70, 71, 72, 73, 74, 75, 69, 76, 77, 78, 79, 31, 32, 33, 80, 81, 82, 83, 84, 37, 29, 38, 85, 86, 87, 88, 89, 90, 91, 92, 93, 94, 95, 96, 97, 98, 99, 100, 101, 102, 130, 131, 132, 116, 117, 118, 119, 120, 121, 122, 123, 124] (by decide +kernel) (by decide +kernel)
set_option maxRecDepth 20000 in
theorem gX8_thing_X0_buyerOf : GoodIn wsX8_thing (wsV RX8 134 RX0 yX0_buyerOf wsX0_buyerOf) := goodIn_app (goodIn_of _ (by decide +kernel)) ggX8_thing_X0_buyerOf
theorem dX8_thing_0 : decode cX8_thing 0 = .ok (.aload_n 0, 1) := by decide +kernel
theorem dX8_thing_1 : decode cX8_thing 1 = .ok (.getfield 19, 3) := by decide +kernel
theorem dX8_thing_4 : decode cX8_thing 4 = .ok (.iload_n 1, 1) := by decide +kernel
theorem dX8_thing_5 : decode cX8_thing 5 = .ok (.invokevirtual 100, 3) := by decide +kernel
theorem dX8_thing_8 : decode cX8_thing 8 = .ok (.ifCond .ne 6, 3) := by decide +kernel
theorem dX8_thing_11 : decode cX8_thing 11 = .ok (.bipush (-101), 2) := by decide +kernel
theorem dX8_thing_13 : decode cX8_thing 13 = .ok (.ireturn, 1) := by decide +kernel
theorem dX8_thing_14 : decode cX8_thing 14 = .ok (.iload_n 2, 1) := by decide +kernel
theorem dX8_thing_15 : decode cX8_thing 15 = .ok (.tableswitch 158 0 8 #[49, 59, 69, 79, 89, 99, 119, 132, 145], 49) := by decide +kernel
theorem dX8_thing_64 : decode cX8_thing 64 = .ok (.aload_n 0, 1) := by decide +kernel
theorem dX8_thing_65 : decode cX8_thing 65 = .ok (.getfield 19, 3) := by decide +kernel
theorem dX8_thing_68 : decode cX8_thing 68 = .ok (.getfield 103, 3) := by decide +kernel
theorem dX8_thing_71 : decode cX8_thing 71 = .ok (.iload_n 1, 1) := by decide +kernel
theorem dX8_thing_72 : decode cX8_thing 72 = .ok (.iaload, 1) := by decide +kernel
theorem dX8_thing_73 : decode cX8_thing 73 = .ok (.ireturn, 1) := by decide +kernel
theorem dX8_thing_74 : decode cX8_thing 74 = .ok (.aload_n 0, 1) := by decide +kernel
theorem dX8_thing_75 : decode cX8_thing 75 = .ok (.getfield 19, 3) := by decide +kernel
theorem dX8_thing_78 : decode cX8_thing 78 = .ok (.getfield 107, 3) := by decide +kernel
theorem dX8_thing_81 : decode cX8_thing 81 = .ok (.iload_n 1, 1) := by decide +kernel
theorem dX8_thing_82 : decode cX8_thing 82 = .ok (.iaload, 1) := by decide +kernel
theorem dX8_thing_83 : decode cX8_thing 83 = .ok (.ireturn, 1) := by decide +kernel
theorem dX8_thing_84 : decode cX8_thing 84 = .ok (.aload_n 0, 1) := by decide +kernel
theorem dX8_thing_85 : decode cX8_thing 85 = .ok (.getfield 19, 3) := by decide +kernel
theorem dX8_thing_88 : decode cX8_thing 88 = .ok (.getfield 110, 3) := by decide +kernel
theorem dX8_thing_91 : decode cX8_thing 91 = .ok (.iload_n 1, 1) := by decide +kernel
theorem dX8_thing_92 : decode cX8_thing 92 = .ok (.iaload, 1) := by decide +kernel
theorem dX8_thing_93 : decode cX8_thing 93 = .ok (.ireturn, 1) := by decide +kernel
theorem dX8_thing_94 : decode cX8_thing 94 = .ok (.aload_n 0, 1) := by decide +kernel
theorem dX8_thing_95 : decode cX8_thing 95 = .ok (.getfield 19, 3) := by decide +kernel
theorem dX8_thing_98 : decode cX8_thing 98 = .ok (.getfield 113, 3) := by decide +kernel
theorem dX8_thing_101 : decode cX8_thing 101 = .ok (.iload_n 1, 1) := by decide +kernel
theorem dX8_thing_102 : decode cX8_thing 102 = .ok (.iaload, 1) := by decide +kernel
theorem dX8_thing_103 : decode cX8_thing 103 = .ok (.ireturn, 1) := by decide +kernel
theorem dX8_thing_104 : decode cX8_thing 104 = .ok (.aload_n 0, 1) := by decide +kernel
theorem dX8_thing_105 : decode cX8_thing 105 = .ok (.getfield 19, 3) := by decide +kernel
theorem dX8_thing_108 : decode cX8_thing 108 = .ok (.iload_n 1, 1) := by decide +kernel
theorem dX8_thing_109 : decode cX8_thing 109 = .ok (.iconst 0, 1) := by decide +kernel
theorem dX8_thing_110 : decode cX8_thing 110 = .ok (.invokevirtual 116, 3) := by decide +kernel
theorem dX8_thing_113 : decode cX8_thing 113 = .ok (.ireturn, 1) := by decide +kernel
theorem dX8_thing_114 : decode cX8_thing 114 = .ok (.aload_n 0, 1) := by decide +kernel
theorem dX8_thing_115 : decode cX8_thing 115 = .ok (.getfield 19, 3) := by decide +kernel
theorem dX8_thing_118 : decode cX8_thing 118 = .ok (.getfield 120, 3) := by decide +kernel
theorem dX8_thing_121 : decode cX8_thing 121 = .ok (.iload_n 1, 1) := by decide +kernel
theorem dX8_thing_122 : decode cX8_thing 122 = .ok (.invokestatic 123, 3) := by decide +kernel
theorem dX8_thing_125 : decode cX8_thing 125 = .ok (.ifCond .eq 7, 3) := by decide +kernel
theorem dX8_thing_128 : decode cX8_thing 128 = .ok (.iconst 1, 1) := by decide +kernel
theorem dX8_thing_129 : decode cX8_thing 129 = .ok (.goto 4, 3) := by decide +kernel
theorem dX8_thing_132 : decode cX8_thing 132 = .ok (.iconst 0, 1) := by decide +kernel
theorem dX8_thing_133 : decode cX8_thing 133 = .ok (.ireturn, 1) := by decide +kernel
theorem dX8_thing_134 : decode cX8_thing 134 = .ok (.aload_n 0, 1) := by decide +kernel
theorem dX8_thing_135 : decode cX8_thing 135 = .ok (.getfield 29, 3) := by decide +kernel
theorem dX8_thing_138 : decode cX8_thing 138 = .ok (.aload_n 0, 1) := by decide +kernel
theorem dX8_thing_139 : decode cX8_thing 139 = .ok (.getfield 19, 3) := by decide +kernel
theorem dX8_thing_142 : decode cX8_thing 142 = .ok (.iload_n 1, 1) := by decide +kernel
theorem dX8_thing_143 : decode cX8_thing 143 = .ok (.invokevirtual 127, 3) := by decide +kernel
theorem dX8_thing_146 : decode cX8_thing 146 = .ok (.ireturn, 1) := by decide +kernel
theorem dX8_thing_147 : decode cX8_thing 147 = .ok (.aload_n 0, 1) := by decide +kernel
theorem dX8_thing_148 : decode cX8_thing 148 = .ok (.getfield 29, 3) := by decide +kernel
theorem dX8_thing_151 : decode cX8_thing 151 = .ok (.aload_n 0, 1) := by decide +kernel
theorem dX8_thing_152 : decode cX8_thing 152 = .ok (.getfield 19, 3) := by decide +kernel
theorem dX8_thing_155 : decode cX8_thing 155 = .ok (.iload_n 1, 1) := by decide +kernel
theorem dX8_thing_156 : decode cX8_thing 156 = .ok (.invokevirtual 131, 3) := by decide +kernel
theorem dX8_thing_159 : decode cX8_thing 159 = .ok (.ireturn, 1) := by decide +kernel
theorem dX8_thing_160 : decode cX8_thing 160 = .ok (.aload_n 0, 1) := by decide +kernel
theorem dX8_thing_161 : decode cX8_thing 161 = .ok (.getfield 60, 3) := by decide +kernel
theorem dX8_thing_164 : decode cX8_thing 164 = .ok (.aload_n 0, 1) := by decide +kernel
theorem dX8_thing_165 : decode cX8_thing 165 = .ok (.getfield 19, 3) := by decide +kernel
theorem dX8_thing_168 : decode cX8_thing 168 = .ok (.iload_n 1, 1) := by decide +kernel
theorem dX8_thing_169 : decode cX8_thing 169 = .ok (.invokevirtual 134, 3) := by decide +kernel
theorem dX8_thing_172 : decode cX8_thing 172 = .ok (.ireturn, 1) := by decide +kernel
theorem dX8_thing_173 : decode cX8_thing 173 = .ok (.bipush (-102), 2) := by decide +kernel
theorem dX8_thing_175 : decode cX8_thing 175 = .ok (.ireturn, 1) := by decide +kernel
set_option maxRecDepth 20000 in
theorem ggX8_as_X3_has : GoodIn wsX8_as wsX3_has := goodIn_r _ [7, 8, 26, 27, 28, 29, 30, 31, 32, 33, 34] (by decide +kernel) (by decide +kernel)
set_option maxRecDepth 20000 in
theorem gX8_as_X3_has : GoodIn wsX8_as (wsV RX8 100 RX3 yX3_has wsX3_has) := goodIn_app (goodIn_of _ (by decide +kernel)) ggX8_as_X3_has
set_option maxRecDepth 20000 in
theorem ggX8_as_X8_isKind : GoodIn wsX8_as wsX8_isKind := goodIn_r _ [12] (by decide +kernel) (by decide +kernel)
set_option maxRecDepth 20000 in
theorem gX8_as_X8_isKind : GoodIn wsX8_as (va_wsS RX8 137 yX8_isKind wsX8_isKind) := goodIn_app (goodIn_of _ (by decide +kernel)) ggX8_as_X8_isKind
theorem dX8_as_0 : decode cX8_as 0 = .ok (.aload_n 0, 1) := by decide +kernel
theorem dX8_as_1 : decode cX8_as 1 = .ok (.getfield 19, 3) := by decide +kernel
theorem dX8_as_4 : decode cX8_as 4 = .ok (.iload_n 1, 1) := by decide +kernel
theorem dX8_as_5 : decode cX8_as 5 = .ok (.invokevirtual 100, 3) := by decide +kernel
theorem dX8_as_8 : decode cX8_as 8 = .ok (.ifCond .ne 6, 3) := by decide +kernel
theorem dX8_as_11 : decode cX8_as 11 = .ok (.bipush (-101), 2) := by decide +kernel
theorem dX8_as_13 : decode cX8_as 13 = .ok (.ireturn, 1) := by decide +kernel
theorem dX8_as_14 : decode cX8_as 14 = .ok (.iload_n 2, 1) := by decide +kernel
theorem dX8_as_15 : decode cX8_as 15 = .ok (.ifCond .lt 8, 3) := by decide +kernel
theorem dX8_as_18 : decode cX8_as 18 = .ok (.iload_n 2, 1) := by decide +kernel
theorem dX8_as_19 : decode cX8_as 19 = .ok (.iconst 5, 1) := by decide +kernel
theorem dX8_as_20 : decode cX8_as 20 = .ok (.if_icmp .lt 6, 3) := by decide +kernel
theorem dX8_as_23 : decode cX8_as 23 = .ok (.bipush (-102), 2) := by decide +kernel
theorem dX8_as_25 : decode cX8_as 25 = .ok (.ireturn, 1) := by decide +kernel
theorem dX8_as_26 : decode cX8_as 26 = .ok (.aload_n 0, 1) := by decide +kernel
theorem dX8_as_27 : decode cX8_as 27 = .ok (.getfield 19, 3) := by decide +kernel
theorem dX8_as_30 : decode cX8_as 30 = .ok (.getfield 103, 3) := by decide +kernel
theorem dX8_as_33 : decode cX8_as 33 = .ok (.iload_n 1, 1) := by decide +kernel
theorem dX8_as_34 : decode cX8_as 34 = .ok (.iaload, 1) := by decide +kernel
theorem dX8_as_35 : decode cX8_as 35 = .ok (.iload_n 2, 1) := by decide +kernel
theorem dX8_as_36 : decode cX8_as 36 = .ok (.invokestatic 137, 3) := by decide +kernel
theorem dX8_as_39 : decode cX8_as 39 = .ok (.ifCond .eq 7, 3) := by decide +kernel
theorem dX8_as_42 : decode cX8_as 42 = .ok (.iload_n 1, 1) := by decide +kernel
theorem dX8_as_43 : decode cX8_as 43 = .ok (.goto 4, 3) := by decide +kernel
theorem dX8_as_46 : decode cX8_as 46 = .ok (.iconst (-1), 1) := by decide +kernel
theorem dX8_as_47 : decode cX8_as 47 = .ok (.ireturn, 1) := by decide +kernel
set_option maxRecDepth 20000 in
theorem ggX8_touch_X3_has : GoodIn wsX8_touch wsX3_has := goodIn_r _ [8, 9, 52, 53, 54, 55, 56, 57, 58, 59, 60] (by decide +kernel) (by decide +kernel)
set_option maxRecDepth 20000 in
theorem gX8_touch_X3_has : GoodIn wsX8_touch (wsV RX8 100 RX3 yX3_has wsX3_has) := goodIn_app (goodIn_of _ (by decide +kernel)) ggX8_touch_X3_has
set_option maxRecDepth 20000 in
theorem ggX8_touch_X8_isIn : GoodIn wsX8_touch wsX8_isIn := goodIn_r _ [13] (by decide +kernel) (by decide +kernel)
set_option maxRecDepth 20000 in
theorem gX8_touch_X8_isIn : GoodIn wsX8_touch (va_wsS RX8 123 yX8_isIn wsX8_isIn) := goodIn_app (goodIn_of _ (by decide +kernel)) ggX8_touch_X8_isIn
set_option maxRecDepth 20000 in
theorem ggX8_touch_X3_lookAt : GoodIn wsX8_touch wsX3_lookAt := goodIn_r _ [17, 18, 19, 20, 21, 22, 23, 52, 53, 54, 55, 56, 57, 58, 59, 60] (by decide +kernel) (by decide +kernel)
set_option maxRecDepth 20000 in
theorem gX8_touch_X3_lookAt : GoodIn wsX8_touch (wsV RX8 143 RX3 yX3_lookAt wsX3_lookAt) := goodIn_app (goodIn_of _ (by decide +kernel)) ggX8_touch_X3_lookAt
set_option maxRecDepth 20000 in
theorem ggX8_touch_X3_missedBehind : GoodIn wsX8_touch wsX3_missedBehind := goodIn_r _ [27, 28, 18, 29, 30, 31, 7, 32, 33, 23, 19, 20, 21, 22, 11, 12, 13, 34, 35, 36, 37, 38, 52, 53, 54, 55, 56, 57, 58, 59, 60] (by decide +kernel) (by decide +kernel)
set_option maxRecDepth 20000 in
theorem gX8_touch_X3_missedBehind : GoodIn wsX8_touch (wsV RX8 116 RX3 yX3_missedBehind wsX3_missedBehind) := goodIn_app (goodIn_of _ (by decide +kernel)) ggX8_touch_X3_missedBehind
theorem dX8_touch_0 : decode cX8_touch 0 = .ok (.aload_n 0, 1) := by decide +kernel
theorem dX8_touch_1 : decode cX8_touch 1 = .ok (.getfield 19, 3) := by decide +kernel
theorem dX8_touch_4 : decode cX8_touch 4 = .ok (.iload_n 1, 1) := by decide +kernel
theorem dX8_touch_5 : decode cX8_touch 5 = .ok (.invokevirtual 100, 3) := by decide +kernel
theorem dX8_touch_8 : decode cX8_touch 8 = .ok (.ifCond .ne 6, 3) := by decide +kernel
theorem dX8_touch_11 : decode cX8_touch 11 = .ok (.bipush (-101), 2) := by decide +kernel
theorem dX8_touch_13 : decode cX8_touch 13 = .ok (.ireturn, 1) := by decide +kernel
theorem dX8_touch_14 : decode cX8_touch 14 = .ok (.aload_n 0, 1) := by decide +kernel
theorem dX8_touch_15 : decode cX8_touch 15 = .ok (.getfield 19, 3) := by decide +kernel
theorem dX8_touch_18 : decode cX8_touch 18 = .ok (.getfield 120, 3) := by decide +kernel
theorem dX8_touch_21 : decode cX8_touch 21 = .ok (.iload_n 1, 1) := by decide +kernel
theorem dX8_touch_22 : decode cX8_touch 22 = .ok (.invokestatic 123, 3) := by decide +kernel
theorem dX8_touch_25 : decode cX8_touch 25 = .ok (.ifCond .eq 6, 3) := by decide +kernel
theorem dX8_touch_28 : decode cX8_touch 28 = .ok (.bipush (-103), 2) := by decide +kernel
theorem dX8_touch_30 : decode cX8_touch 30 = .ok (.ireturn, 1) := by decide +kernel
theorem dX8_touch_31 : decode cX8_touch 31 = .ok (.aload_n 0, 1) := by decide +kernel
theorem dX8_touch_32 : decode cX8_touch 32 = .ok (.getfield 19, 3) := by decide +kernel
theorem dX8_touch_35 : decode cX8_touch 35 = .ok (.getfield 140, 3) := by decide +kernel
theorem dX8_touch_38 : decode cX8_touch 38 = .ok (.sipush 999, 3) := by decide +kernel
theorem dX8_touch_41 : decode cX8_touch 41 = .ok (.if_icmp .lt 6, 3) := by decide +kernel
theorem dX8_touch_44 : decode cX8_touch 44 = .ok (.bipush (-104), 2) := by decide +kernel
theorem dX8_touch_46 : decode cX8_touch 46 = .ok (.ireturn, 1) := by decide +kernel
theorem dX8_touch_47 : decode cX8_touch 47 = .ok (.aload_n 0, 1) := by decide +kernel
theorem dX8_touch_48 : decode cX8_touch 48 = .ok (.getfield 19, 3) := by decide +kernel
theorem dX8_touch_51 : decode cX8_touch 51 = .ok (.iload_n 1, 1) := by decide +kernel
theorem dX8_touch_52 : decode cX8_touch 52 = .ok (.iconst 0, 1) := by decide +kernel
theorem dX8_touch_53 : decode cX8_touch 53 = .ok (.invokevirtual 143, 3) := by decide +kernel
theorem dX8_touch_56 : decode cX8_touch 56 = .ok (.aload_n 0, 1) := by decide +kernel
theorem dX8_touch_57 : decode cX8_touch 57 = .ok (.getfield 19, 3) := by decide +kernel
theorem dX8_touch_60 : decode cX8_touch 60 = .ok (.dup, 1) := by decide +kernel
theorem dX8_touch_61 : decode cX8_touch 61 = .ok (.getfield 140, 3) := by decide +kernel
theorem dX8_touch_64 : decode cX8_touch 64 = .ok (.iconst 1, 1) := by decide +kernel
theorem dX8_touch_65 : decode cX8_touch 65 = .ok (.iadd, 1) := by decide +kernel
theorem dX8_touch_66 : decode cX8_touch 66 = .ok (.putfield 140, 3) := by decide +kernel
theorem dX8_touch_69 : decode cX8_touch 69 = .ok (.aload_n 0, 1) := by decide +kernel
theorem dX8_touch_70 : decode cX8_touch 70 = .ok (.getfield 19, 3) := by decide +kernel
theorem dX8_touch_73 : decode cX8_touch 73 = .ok (.iload_n 1, 1) := by decide +kernel
theorem dX8_touch_74 : decode cX8_touch 74 = .ok (.iconst 0, 1) := by decide +kernel
theorem dX8_touch_75 : decode cX8_touch 75 = .ok (.invokevirtual 116, 3) := by decide +kernel
theorem dX8_touch_78 : decode cX8_touch 78 = .ok (.ireturn, 1) := by decide +kernel
set_option maxRecDepth 20000 in
theorem ggX8_day_X3_isNone : GoodIn wsX8_day wsX3_isNone := goodIn_r _ [7, 8, 40, 41, 42, 43, 44, 45, 46, 47, 48] (by decide +kernel) (by decide +kernel)
set_option maxRecDepth 20000 in
theorem gX8_day_X3_isNone : GoodIn wsX8_day (wsV RX8 147 RX3 yX3_isNone wsX3_isNone) := goodIn_app (goodIn_of _ (by decide +kernel)) ggX8_day_X3_isNone
set_option maxRecDepth 20000 in
theorem ggX8_day_X3_passDay : GoodIn wsX8_day wsX3_passDay := goodIn_r _ [12, 13, 8, 14, 15, 16, 17, 6, 18, 19, 20, 21, 22, 23, 24, 25, 26, 40, 41, 42, 43, 44, 45, 46, 47, 48] (by decide +kernel) (by decide +kernel)
set_option maxRecDepth 20000 in
theorem gX8_day_X3_passDay : GoodIn wsX8_day (wsV RX8 153 RX3 yX3_passDay wsX3_passDay) := goodIn_app (goodIn_of _ (by decide +kernel)) ggX8_day_X3_passDay
theorem dX8_day_0 : decode cX8_day 0 = .ok (.aload_n 0, 1) := by decide +kernel
theorem dX8_day_1 : decode cX8_day 1 = .ok (.getfield 19, 3) := by decide +kernel
theorem dX8_day_4 : decode cX8_day 4 = .ok (.invokevirtual 147, 3) := by decide +kernel
theorem dX8_day_7 : decode cX8_day 7 = .ok (.ifCond .eq 6, 3) := by decide +kernel
theorem dX8_day_10 : decode cX8_day 10 = .ok (.bipush (-103), 2) := by decide +kernel
theorem dX8_day_12 : decode cX8_day 12 = .ok (.ireturn, 1) := by decide +kernel
theorem dX8_day_13 : decode cX8_day 13 = .ok (.aload_n 0, 1) := by decide +kernel
theorem dX8_day_14 : decode cX8_day 14 = .ok (.getfield 19, 3) := by decide +kernel
theorem dX8_day_17 : decode cX8_day 17 = .ok (.getfield 150, 3) := by decide +kernel
theorem dX8_day_20 : decode cX8_day 20 = .ok (.sipush 999, 3) := by decide +kernel
theorem dX8_day_23 : decode cX8_day 23 = .ok (.if_icmp .lt 6, 3) := by decide +kernel
theorem dX8_day_26 : decode cX8_day 26 = .ok (.bipush (-104), 2) := by decide +kernel
theorem dX8_day_28 : decode cX8_day 28 = .ok (.ireturn, 1) := by decide +kernel
theorem dX8_day_29 : decode cX8_day 29 = .ok (.aload_n 0, 1) := by decide +kernel
theorem dX8_day_30 : decode cX8_day 30 = .ok (.getfield 19, 3) := by decide +kernel
theorem dX8_day_33 : decode cX8_day 33 = .ok (.invokevirtual 153, 3) := by decide +kernel
theorem dX8_day_36 : decode cX8_day 36 = .ok (.aload_n 0, 1) := by decide +kernel
theorem dX8_day_37 : decode cX8_day 37 = .ok (.getfield 19, 3) := by decide +kernel
theorem dX8_day_40 : decode cX8_day 40 = .ok (.getfield 150, 3) := by decide +kernel
theorem dX8_day_43 : decode cX8_day 43 = .ok (.ireturn, 1) := by decide +kernel
set_option maxRecDepth 20000 in
theorem ggX8_take_X3_isNone : GoodIn wsX8_take wsX3_isNone := goodIn_r _ [6, 7, 56, 57, 58, 59, 60, 61, 62, 63, 64] (by decide +kernel) (by decide +kernel)
set_option maxRecDepth 20000 in
theorem gX8_take_X3_isNone : GoodIn wsX8_take (wsV RX8 147 RX3 yX3_isNone wsX3_isNone) := goodIn_app (goodIn_of _ (by decide +kernel)) ggX8_take_X3_isNone
set_option maxRecDepth 20000 in
theorem ggX8_take_X3_wouldTake : GoodIn wsX8_take wsX3_wouldTake := goodIn_r _ [11, 12, 7, 13, 14, 15, 16, 17, 18, 19, 5, 20, 21, 22, 23, 24, 25, 26, 27, 28, 29, 30, 31, 32, 33, 34, 35, 36, 56, 57, 58, 59, 60, 61, 62, 63, 64] (by decide +kernel) (by decide +kernel)
set_option maxRecDepth 20000 in
theorem gX8_take_X3_wouldTake : GoodIn wsX8_take (wsV RX8 156 RX3 yX3_wouldTake wsX3_wouldTake) := goodIn_app (goodIn_of _ (by decide +kernel)) ggX8_take_X3_wouldTake
set_option maxRecDepth 20000 in
theorem ggX8_take_X3_haveAway : GoodIn wsX8_take wsX3_haveAway := goodIn_r _ [40, 13, 12, 41, 42, 35, 30, 36, 56, 57, 58, 59, 60, 61, 62, 63, 64] (by decide +kernel) (by decide +kernel)
set_option maxRecDepth 20000 in
theorem gX8_take_X3_haveAway : GoodIn wsX8_take (wsV RX8 160 RX3 yX3_haveAway wsX3_haveAway) := goodIn_app (goodIn_of _ (by decide +kernel)) ggX8_take_X3_haveAway
theorem dX8_take_0 : decode cX8_take 0 = .ok (.aload_n 0, 1) := by decide +kernel
theorem dX8_take_1 : decode cX8_take 1 = .ok (.getfield 19, 3) := by decide +kernel
theorem dX8_take_4 : decode cX8_take 4 = .ok (.invokevirtual 147, 3) := by decide +kernel
theorem dX8_take_7 : decode cX8_take 7 = .ok (.ifCond .eq 7, 3) := by decide +kernel
theorem dX8_take_10 : decode cX8_take 10 = .ok (.iconst (-1), 1) := by decide +kernel
theorem dX8_take_11 : decode cX8_take 11 = .ok (.goto 11, 3) := by decide +kernel
theorem dX8_take_14 : decode cX8_take 14 = .ok (.aload_n 0, 1) := by decide +kernel
theorem dX8_take_15 : decode cX8_take 15 = .ok (.getfield 19, 3) := by decide +kernel
theorem dX8_take_18 : decode cX8_take 18 = .ok (.iconst 0, 1) := by decide +kernel
theorem dX8_take_19 : decode cX8_take 19 = .ok (.invokevirtual 156, 3) := by decide +kernel
theorem dX8_take_22 : decode cX8_take 22 = .ok (.istore_n 1, 1) := by decide +kernel
theorem dX8_take_23 : decode cX8_take 23 = .ok (.iload_n 1, 1) := by decide +kernel
theorem dX8_take_24 : decode cX8_take 24 = .ok (.iconst (-1), 1) := by decide +kernel
theorem dX8_take_25 : decode cX8_take 25 = .ok (.if_icmp .ne 6, 3) := by decide +kernel
theorem dX8_take_28 : decode cX8_take 28 = .ok (.bipush (-103), 2) := by decide +kernel
theorem dX8_take_30 : decode cX8_take 30 = .ok (.ireturn, 1) := by decide +kernel
theorem dX8_take_31 : decode cX8_take 31 = .ok (.aload_n 0, 1) := by decide +kernel
theorem dX8_take_32 : decode cX8_take 32 = .ok (.getfield 19, 3) := by decide +kernel
theorem dX8_take_35 : decode cX8_take 35 = .ok (.iload_n 1, 1) := by decide +kernel
theorem dX8_take_36 : decode cX8_take 36 = .ok (.invokevirtual 160, 3) := by decide +kernel
theorem dX8_take_39 : decode cX8_take 39 = .ok (.iload_n 1, 1) := by decide +kernel
theorem dX8_take_40 : decode cX8_take 40 = .ok (.ireturn, 1) := by decide +kernel
set_option maxRecDepth 20000 in
theorem ggX8_redeem_X3_has : GoodIn wsX8_redeem wsX3_has := goodIn_r _ [9, 10, 28, 29, 30, 31, 32, 33, 34, 35, 36] (by decide +kernel) (by decide +kernel)
set_option maxRecDepth 20000 in
theorem gX8_redeem_X3_has : GoodIn wsX8_redeem (wsV RX8 100 RX3 yX3_has wsX3_has) := goodIn_app (goodIn_of _ (by decide +kernel)) ggX8_redeem_X3_has
set_option maxRecDepth 20000 in
theorem ggX8_redeem_X8_isIn : GoodIn wsX8_redeem wsX8_isIn := goodIn_r _ [14] (by decide +kernel) (by decide +kernel)
set_option maxRecDepth 20000 in
theorem gX8_redeem_X8_isIn : GoodIn wsX8_redeem (va_wsS RX8 123 yX8_isIn wsX8_isIn) := goodIn_app (goodIn_of _ (by decide +kernel)) ggX8_redeem_X8_isIn
theorem dX8_redeem_0 : decode cX8_redeem 0 = .ok (.aload_n 0, 1) := by decide +kernel
theorem dX8_redeem_1 : decode cX8_redeem 1 = .ok (.getfield 19, 3) := by decide +kernel
theorem dX8_redeem_4 : decode cX8_redeem 4 = .ok (.iload_n 1, 1) := by decide +kernel
theorem dX8_redeem_5 : decode cX8_redeem 5 = .ok (.invokevirtual 100, 3) := by decide +kernel
theorem dX8_redeem_8 : decode cX8_redeem 8 = .ok (.ifCond .ne 6, 3) := by decide +kernel
theorem dX8_redeem_11 : decode cX8_redeem 11 = .ok (.bipush (-101), 2) := by decide +kernel
theorem dX8_redeem_13 : decode cX8_redeem 13 = .ok (.ireturn, 1) := by decide +kernel
theorem dX8_redeem_14 : decode cX8_redeem 14 = .ok (.aload_n 0, 1) := by decide +kernel
theorem dX8_redeem_15 : decode cX8_redeem 15 = .ok (.getfield 19, 3) := by decide +kernel
theorem dX8_redeem_18 : decode cX8_redeem 18 = .ok (.getfield 120, 3) := by decide +kernel
theorem dX8_redeem_21 : decode cX8_redeem 21 = .ok (.iload_n 1, 1) := by decide +kernel
theorem dX8_redeem_22 : decode cX8_redeem 22 = .ok (.invokestatic 123, 3) := by decide +kernel
theorem dX8_redeem_25 : decode cX8_redeem 25 = .ok (.ifCond .ne 6, 3) := by decide +kernel
theorem dX8_redeem_28 : decode cX8_redeem 28 = .ok (.bipush (-103), 2) := by decide +kernel
theorem dX8_redeem_30 : decode cX8_redeem 30 = .ok (.ireturn, 1) := by decide +kernel
theorem dX8_redeem_31 : decode cX8_redeem 31 = .ok (.aload_n 0, 1) := by decide +kernel
theorem dX8_redeem_32 : decode cX8_redeem 32 = .ok (.getfield 19, 3) := by decide +kernel
theorem dX8_redeem_35 : decode cX8_redeem 35 = .ok (.getfield 164, 3) := by decide +kernel
theorem dX8_redeem_38 : decode cX8_redeem 38 = .ok (.aload_n 0, 1) := by decide +kernel
theorem dX8_redeem_39 : decode cX8_redeem 39 = .ok (.getfield 19, 3) := by decide +kernel
theorem dX8_redeem_42 : decode cX8_redeem 42 = .ok (.getfield 107, 3) := by decide +kernel
theorem dX8_redeem_45 : decode cX8_redeem 45 = .ok (.iload_n 1, 1) := by decide +kernel
theorem dX8_redeem_46 : decode cX8_redeem 46 = .ok (.iaload, 1) := by decide +kernel
theorem dX8_redeem_47 : decode cX8_redeem 47 = .ok (.iadd, 1) := by decide +kernel
theorem dX8_redeem_48 : decode cX8_redeem 48 = .ok (.bipush 99, 2) := by decide +kernel
theorem dX8_redeem_50 : decode cX8_redeem 50 = .ok (.if_icmp .le 6, 3) := by decide +kernel
theorem dX8_redeem_53 : decode cX8_redeem 53 = .ok (.bipush (-104), 2) := by decide +kernel
theorem dX8_redeem_55 : decode cX8_redeem 55 = .ok (.ireturn, 1) := by decide +kernel
theorem dX8_redeem_56 : decode cX8_redeem 56 = .ok (.aload_n 0, 1) := by decide +kernel
theorem dX8_redeem_57 : decode cX8_redeem 57 = .ok (.getfield 19, 3) := by decide +kernel
theorem dX8_redeem_60 : decode cX8_redeem 60 = .ok (.dup, 1) := by decide +kernel
theorem dX8_redeem_61 : decode cX8_redeem 61 = .ok (.getfield 120, 3) := by decide +kernel
theorem dX8_redeem_64 : decode cX8_redeem 64 = .ok (.iconst 1, 1) := by decide +kernel
theorem dX8_redeem_65 : decode cX8_redeem 65 = .ok (.iload_n 1, 1) := by decide +kernel
theorem dX8_redeem_66 : decode cX8_redeem 66 = .ok (.ishl, 1) := by decide +kernel
theorem dX8_redeem_67 : decode cX8_redeem 67 = .ok (.iconst (-1), 1) := by decide +kernel
theorem dX8_redeem_68 : decode cX8_redeem 68 = .ok (.ixor, 1) := by decide +kernel
theorem dX8_redeem_69 : decode cX8_redeem 69 = .ok (.iand, 1) := by decide +kernel
theorem dX8_redeem_70 : decode cX8_redeem 70 = .ok (.putfield 120, 3) := by decide +kernel
theorem dX8_redeem_73 : decode cX8_redeem 73 = .ok (.aload_n 0, 1) := by decide +kernel
theorem dX8_redeem_74 : decode cX8_redeem 74 = .ok (.getfield 19, 3) := by decide +kernel
theorem dX8_redeem_77 : decode cX8_redeem 77 = .ok (.dup, 1) := by decide +kernel
theorem dX8_redeem_78 : decode cX8_redeem 78 = .ok (.getfield 164, 3) := by decide +kernel
theorem dX8_redeem_81 : decode cX8_redeem 81 = .ok (.aload_n 0, 1) := by decide +kernel
theorem dX8_redeem_82 : decode cX8_redeem 82 = .ok (.getfield 19, 3) := by decide +kernel
theorem dX8_redeem_85 : decode cX8_redeem 85 = .ok (.getfield 107, 3) := by decide +kernel
theorem dX8_redeem_88 : decode cX8_redeem 88 = .ok (.iload_n 1, 1) := by decide +kernel
theorem dX8_redeem_89 : decode cX8_redeem 89 = .ok (.iaload, 1) := by decide +kernel
theorem dX8_redeem_90 : decode cX8_redeem 90 = .ok (.iadd, 1) := by decide +kernel
theorem dX8_redeem_91 : decode cX8_redeem 91 = .ok (.putfield 164, 3) := by decide +kernel
theorem dX8_redeem_94 : decode cX8_redeem 94 = .ok (.aload_n 0, 1) := by decide +kernel
theorem dX8_redeem_95 : decode cX8_redeem 95 = .ok (.getfield 19, 3) := by decide +kernel
theorem dX8_redeem_98 : decode cX8_redeem 98 = .ok (.getfield 164, 3) := by decide +kernel
theorem dX8_redeem_101 : decode cX8_redeem 101 = .ok (.ireturn, 1) := by decide +kernel
set_option maxRecDepth 20000 in
theorem ggX8_borrow_X3_isNone : GoodIn wsX8_borrow wsX3_isNone := goodIn_r _ [7, 8, 22, 23, 24, 25, 26, 27, 28, 29, 30] (by decide +kernel) (by decide +kernel)
set_option maxRecDepth 20000 in
theorem gX8_borrow_X3_isNone : GoodIn wsX8_borrow (wsV RX8 147 RX3 yX3_isNone wsX3_isNone) := goodIn_app (goodIn_of _ (by decide +kernel)) ggX8_borrow_X3_isNone
theorem dX8_borrow_0 : decode cX8_borrow 0 = .ok (.iload_n 1, 1) := by decide +kernel
theorem dX8_borrow_1 : decode cX8_borrow 1 = .ok (.iconst 1, 1) := by decide +kernel
theorem dX8_borrow_2 : decode cX8_borrow 2 = .ok (.if_icmp .lt 9, 3) := by decide +kernel
theorem dX8_borrow_5 : decode cX8_borrow 5 = .ok (.iload_n 1, 1) := by decide +kernel
theorem dX8_borrow_6 : decode cX8_borrow 6 = .ok (.bipush 50, 2) := by decide +kernel
theorem dX8_borrow_8 : decode cX8_borrow 8 = .ok (.if_icmp .le 6, 3) := by decide +kernel
theorem dX8_borrow_11 : decode cX8_borrow 11 = .ok (.bipush (-102), 2) := by decide +kernel
theorem dX8_borrow_13 : decode cX8_borrow 13 = .ok (.ireturn, 1) := by decide +kernel
theorem dX8_borrow_14 : decode cX8_borrow 14 = .ok (.aload_n 0, 1) := by decide +kernel
theorem dX8_borrow_15 : decode cX8_borrow 15 = .ok (.getfield 19, 3) := by decide +kernel
theorem dX8_borrow_18 : decode cX8_borrow 18 = .ok (.invokevirtual 147, 3) := by decide +kernel
theorem dX8_borrow_21 : decode cX8_borrow 21 = .ok (.ifCond .eq 6, 3) := by decide +kernel
theorem dX8_borrow_24 : decode cX8_borrow 24 = .ok (.bipush (-103), 2) := by decide +kernel
theorem dX8_borrow_26 : decode cX8_borrow 26 = .ok (.ireturn, 1) := by decide +kernel
theorem dX8_borrow_27 : decode cX8_borrow 27 = .ok (.aload_n 0, 1) := by decide +kernel
theorem dX8_borrow_28 : decode cX8_borrow 28 = .ok (.getfield 19, 3) := by decide +kernel
theorem dX8_borrow_31 : decode cX8_borrow 31 = .ok (.getfield 164, 3) := by decide +kernel
theorem dX8_borrow_34 : decode cX8_borrow 34 = .ok (.iload_n 1, 1) := by decide +kernel
theorem dX8_borrow_35 : decode cX8_borrow 35 = .ok (.iadd, 1) := by decide +kernel
theorem dX8_borrow_36 : decode cX8_borrow 36 = .ok (.bipush 99, 2) := by decide +kernel
theorem dX8_borrow_38 : decode cX8_borrow 38 = .ok (.if_icmp .le 6, 3) := by decide +kernel
theorem dX8_borrow_41 : decode cX8_borrow 41 = .ok (.bipush (-104), 2) := by decide +kernel
theorem dX8_borrow_43 : decode cX8_borrow 43 = .ok (.ireturn, 1) := by decide +kernel
theorem dX8_borrow_44 : decode cX8_borrow 44 = .ok (.aload_n 0, 1) := by decide +kernel
theorem dX8_borrow_45 : decode cX8_borrow 45 = .ok (.getfield 19, 3) := by decide +kernel
theorem dX8_borrow_48 : decode cX8_borrow 48 = .ok (.dup, 1) := by decide +kernel
theorem dX8_borrow_49 : decode cX8_borrow 49 = .ok (.getfield 164, 3) := by decide +kernel
theorem dX8_borrow_52 : decode cX8_borrow 52 = .ok (.iload_n 1, 1) := by decide +kernel
theorem dX8_borrow_53 : decode cX8_borrow 53 = .ok (.iadd, 1) := by decide +kernel
theorem dX8_borrow_54 : decode cX8_borrow 54 = .ok (.putfield 164, 3) := by decide +kernel
theorem dX8_borrow_57 : decode cX8_borrow 57 = .ok (.aload_n 0, 1) := by decide +kernel
theorem dX8_borrow_58 : decode cX8_borrow 58 = .ok (.getfield 19, 3) := by decide +kernel
theorem dX8_borrow_61 : decode cX8_borrow 61 = .ok (.getfield 164, 3) := by decide +kernel
theorem dX8_borrow_64 : decode cX8_borrow 64 = .ok (.ireturn, 1) := by decide +kernel
set_option maxRecDepth 20000 in
theorem ggX8_change_X3_has : GoodIn wsX8_change wsX3_has := goodIn_r _ [8, 9, 23, 24, 25, 26, 27, 28, 29, 30, 31] (by decide +kernel) (by decide +kernel)
set_option maxRecDepth 20000 in
theorem gX8_change_X3_has : GoodIn wsX8_change (wsV RX8 100 RX3 yX3_has wsX3_has) := goodIn_app (goodIn_of _ (by decide +kernel)) ggX8_change_X3_has
theorem dX8_change_0 : decode cX8_change 0 = .ok (.aload_n 0, 1) := by decide +kernel
theorem dX8_change_1 : decode cX8_change 1 = .ok (.getfield 19, 3) := by decide +kernel
theorem dX8_change_4 : decode cX8_change 4 = .ok (.iload_n 1, 1) := by decide +kernel
theorem dX8_change_5 : decode cX8_change 5 = .ok (.invokevirtual 100, 3) := by decide +kernel
theorem dX8_change_8 : decode cX8_change 8 = .ok (.ifCond .ne 6, 3) := by decide +kernel
theorem dX8_change_11 : decode cX8_change 11 = .ok (.bipush (-101), 2) := by decide +kernel
theorem dX8_change_13 : decode cX8_change 13 = .ok (.ireturn, 1) := by decide +kernel
theorem dX8_change_14 : decode cX8_change 14 = .ok (.iload_n 2, 1) := by decide +kernel
theorem dX8_change_15 : decode cX8_change 15 = .ok (.ifCond .lt 19, 3) := by decide +kernel
theorem dX8_change_18 : decode cX8_change 18 = .ok (.iload_n 2, 1) := by decide +kernel
theorem dX8_change_19 : decode cX8_change 19 = .ok (.iconst 5, 1) := by decide +kernel
theorem dX8_change_20 : decode cX8_change 20 = .ok (.if_icmp .ge 14, 3) := by decide +kernel
theorem dX8_change_23 : decode cX8_change 23 = .ok (.iload_n 3, 1) := by decide +kernel
theorem dX8_change_24 : decode cX8_change 24 = .ok (.iconst 1, 1) := by decide +kernel
theorem dX8_change_25 : decode cX8_change 25 = .ok (.if_icmp .lt 9, 3) := by decide +kernel
theorem dX8_change_28 : decode cX8_change 28 = .ok (.iload_n 3, 1) := by decide +kernel
theorem dX8_change_29 : decode cX8_change 29 = .ok (.bipush 9, 2) := by decide +kernel
theorem dX8_change_31 : decode cX8_change 31 = .ok (.if_icmp .le 6, 3) := by decide +kernel
theorem dX8_change_34 : decode cX8_change 34 = .ok (.bipush (-102), 2) := by decide +kernel
theorem dX8_change_36 : decode cX8_change 36 = .ok (.ireturn, 1) := by decide +kernel
theorem dX8_change_37 : decode cX8_change 37 = .ok (.aload_n 0, 1) := by decide +kernel
theorem dX8_change_38 : decode cX8_change 38 = .ok (.getfield 19, 3) := by decide +kernel
theorem dX8_change_41 : decode cX8_change 41 = .ok (.getfield 103, 3) := by decide +kernel
theorem dX8_change_44 : decode cX8_change 44 = .ok (.iload_n 1, 1) := by decide +kernel
theorem dX8_change_45 : decode cX8_change 45 = .ok (.iaload, 1) := by decide +kernel
theorem dX8_change_46 : decode cX8_change 46 = .ok (.istore 4, 2) := by decide +kernel
theorem dX8_change_48 : decode cX8_change 48 = .ok (.aload_n 0, 1) := by decide +kernel
theorem dX8_change_49 : decode cX8_change 49 = .ok (.getfield 19, 3) := by decide +kernel
theorem dX8_change_52 : decode cX8_change 52 = .ok (.getfield 103, 3) := by decide +kernel
theorem dX8_change_55 : decode cX8_change 55 = .ok (.iload_n 1, 1) := by decide +kernel
theorem dX8_change_56 : decode cX8_change 56 = .ok (.iload_n 2, 1) := by decide +kernel
theorem dX8_change_57 : decode cX8_change 57 = .ok (.iastore, 1) := by decide +kernel
theorem dX8_change_58 : decode cX8_change 58 = .ok (.aload_n 0, 1) := by decide +kernel
theorem dX8_change_59 : decode cX8_change 59 = .ok (.getfield 19, 3) := by decide +kernel
theorem dX8_change_62 : decode cX8_change 62 = .ok (.getfield 107, 3) := by decide +kernel
theorem dX8_change_65 : decode cX8_change 65 = .ok (.iload_n 1, 1) := by decide +kernel
theorem dX8_change_66 : decode cX8_change 66 = .ok (.iload_n 3, 1) := by decide +kernel
theorem dX8_change_67 : decode cX8_change 67 = .ok (.iastore, 1) := by decide +kernel
theorem dX8_change_68 : decode cX8_change 68 = .ok (.iload 4, 2) := by decide +kernel
theorem dX8_change_70 : decode cX8_change 70 = .ok (.ireturn, 1) := by decide +kernel
set_option maxRecDepth 20000 in
theorem ggX8_next_X3_isNone : GoodIn wsX8_next wsX3_isNone := goodIn_r _ [6, 7, 50, 51, 52, 53, 54, 55, 56, 57, 58] (by decide +kernel) (by decide +kernel)
set_option maxRecDepth 20000 in
theorem gX8_next_X3_isNone : GoodIn wsX8_next (wsV RX8 147 RX3 yX3_isNone wsX3_isNone) := goodIn_app (goodIn_of _ (by decide +kernel)) ggX8_next_X3_isNone
set_option maxRecDepth 20000 in
theorem ggX8_next_X3_wouldTake : GoodIn wsX8_next wsX3_wouldTake := goodIn_r _ [11, 12, 7, 13, 14, 15, 16, 17, 18, 19, 5, 20, 21, 22, 23, 24, 25, 26, 27, 28, 29, 30, 31, 32, 33, 34, 35, 36, 50, 51, 52, 53, 54, 55, 56, 57, 58] (by decide +kernel) (by decide +kernel)
set_option maxRecDepth 20000 in
theorem gX8_next_X3_wouldTake : GoodIn wsX8_next (wsV RX8 156 RX3 yX3_wouldTake wsX3_wouldTake) := goodIn_app (goodIn_of _ (by decide +kernel)) ggX8_next_X3_wouldTake
theorem dX8_next_0 : decode cX8_next 0 = .ok (.iload_n 1, 1) := by decide +kernel
theorem dX8_next_1 : decode cX8_next 1 = .ok (.ifCond .lt 9, 3) := by decide +kernel
theorem dX8_next_4 : decode cX8_next 4 = .ok (.iload_n 1, 1) := by decide +kernel
theorem dX8_next_5 : decode cX8_next 5 = .ok (.bipush 20, 2) := by decide +kernel
theorem dX8_next_7 : decode cX8_next 7 = .ok (.if_icmp .le 6, 3) := by decide +kernel
theorem dX8_next_10 : decode cX8_next 10 = .ok (.bipush (-102), 2) := by decide +kernel
theorem dX8_next_12 : decode cX8_next 12 = .ok (.ireturn, 1) := by decide +kernel
theorem dX8_next_13 : decode cX8_next 13 = .ok (.aload_n 0, 1) := by decide +kernel
theorem dX8_next_14 : decode cX8_next 14 = .ok (.getfield 19, 3) := by decide +kernel
theorem dX8_next_17 : decode cX8_next 17 = .ok (.invokevirtual 147, 3) := by decide +kernel
theorem dX8_next_20 : decode cX8_next 20 = .ok (.ifCond .eq 8, 3) := by decide +kernel
theorem dX8_next_23 : decode cX8_next 23 = .ok (.bipush (-103), 2) := by decide +kernel
theorem dX8_next_25 : decode cX8_next 25 = .ok (.goto 11, 3) := by decide +kernel
theorem dX8_next_28 : decode cX8_next 28 = .ok (.aload_n 0, 1) := by decide +kernel
theorem dX8_next_29 : decode cX8_next 29 = .ok (.getfield 19, 3) := by decide +kernel
theorem dX8_next_32 : decode cX8_next 32 = .ok (.iload_n 1, 1) := by decide +kernel
theorem dX8_next_33 : decode cX8_next 33 = .ok (.invokevirtual 156, 3) := by decide +kernel
theorem dX8_next_36 : decode cX8_next 36 = .ok (.ireturn, 1) := by decide +kernel
set_option maxRecDepth 20000 in
theorem ggX8_siege_X8_isSiegeAnswer : GoodIn wsX8_siege wsX8_isSiegeAnswer := goodIn_r _ [8] (by decide +kernel) (by decide +kernel)
set_option maxRecDepth 20000 in
theorem gX8_siege_X8_isSiegeAnswer : GoodIn wsX8_siege (va_wsS RX8 167 yX8_isSiegeAnswer wsX8_isSiegeAnswer) := goodIn_app (goodIn_of _ (by decide +kernel)) ggX8_siege_X8_isSiegeAnswer
set_option maxRecDepth 20000 in
theorem ggX8_siege_X3_isNone : GoodIn wsX8_siege wsX3_isNone := goodIn_r _ [13, 14, 121, 122, 123, 124, 125, 126, 127, 128, 129] (by decide +kernel) (by decide +kernel)
set_option maxRecDepth 20000 in
theorem gX8_siege_X3_isNone : GoodIn wsX8_siege (wsV RX8 147 RX3 yX3_isNone wsX3_isNone) := goodIn_app (goodIn_of _ (by decide +kernel)) ggX8_siege_X3_isNone
set_option maxRecDepth 20000 in
theorem ggX8_siege_X6_search : GoodIn wsX8_siege wsX6_search := goodIn_r _ [19, 20, 21, 22, 23, 24, 25, 26, 27, 28, 29, 30, 12, 31, 32, 33, 34, 35, 36, 37, 38, 39, 14, 40, 41, 42, 43, 44, 45, 46, 18, 47, 48, 49, 50, 51, 52, 53, 54, 55, 56, 57, 58, 59, 60, 61, 62, 63, 7, 64, 65, 66, 67, 68, 69, 70, 71, 72, 73, 74, 75, 76, 77, 78, 79, 80, 81, 82, 83, 84, 85, 86, 87, 88, 89, 90, 91, 92, 93, 94, 95, 96, 97, 115, 116, 117, 118, 119, 120, 121, 122, 123, 124, 125, 126, 127, 128, 129] (by decide +kernel) (by decide +kernel)
set_option maxRecDepth 20000 in
theorem gX8_siege_X6_search : GoodIn wsX8_siege (wsV RX8 170 RX6 yX6_search wsX6_search) := goodIn_app (goodIn_of _ (by decide +kernel)) ggX8_siege_X6_search
set_option maxRecDepth 20000 in
theorem ggX8_siege_X6_touchedOn : GoodIn wsX8_siege wsX6_touchedOn := goodIn_r _ [101, 25, 57, 115, 116, 117, 118, 119, 120] (by decide +kernel) (by decide +kernel)
set_option maxRecDepth 20000 in
theorem gX8_siege_X6_touchedOn : GoodIn wsX8_siege (wsV RX8 179 RX6 yX6_touchedOn wsX6_touchedOn) := goodIn_app (goodIn_of _ (by decide +kernel)) ggX8_siege_X6_touchedOn
theorem dX8_siege_0 : decode cX8_siege 0 = .ok (.iload_n 1, 1) := by decide +kernel
theorem dX8_siege_1 : decode cX8_siege 1 = .ok (.iconst 1, 1) := by decide +kernel
theorem dX8_siege_2 : decode cX8_siege 2 = .ok (.if_icmp .lt 15, 3) := by decide +kernel
theorem dX8_siege_5 : decode cX8_siege 5 = .ok (.iload_n 1, 1) := by decide +kernel
theorem dX8_siege_6 : decode cX8_siege 6 = .ok (.iconst 4, 1) := by decide +kernel
theorem dX8_siege_7 : decode cX8_siege 7 = .ok (.if_icmp .gt 10, 3) := by decide +kernel
theorem dX8_siege_10 : decode cX8_siege 10 = .ok (.iload_n 2, 1) := by decide +kernel
theorem dX8_siege_11 : decode cX8_siege 11 = .ok (.invokestatic 167, 3) := by decide +kernel
theorem dX8_siege_14 : decode cX8_siege 14 = .ok (.ifCond .ne 6, 3) := by decide +kernel
theorem dX8_siege_17 : decode cX8_siege 17 = .ok (.bipush (-102), 2) := by decide +kernel
theorem dX8_siege_19 : decode cX8_siege 19 = .ok (.ireturn, 1) := by decide +kernel
theorem dX8_siege_20 : decode cX8_siege 20 = .ok (.aload_n 0, 1) := by decide +kernel
theorem dX8_siege_21 : decode cX8_siege 21 = .ok (.getfield 19, 3) := by decide +kernel
theorem dX8_siege_24 : decode cX8_siege 24 = .ok (.invokevirtual 147, 3) := by decide +kernel
theorem dX8_siege_27 : decode cX8_siege 27 = .ok (.ifCond .eq 6, 3) := by decide +kernel
theorem dX8_siege_30 : decode cX8_siege 30 = .ok (.bipush (-103), 2) := by decide +kernel
theorem dX8_siege_32 : decode cX8_siege 32 = .ok (.ireturn, 1) := by decide +kernel
theorem dX8_siege_33 : decode cX8_siege 33 = .ok (.aload_n 0, 1) := by decide +kernel
theorem dX8_siege_34 : decode cX8_siege 34 = .ok (.getfield 39, 3) := by decide +kernel
theorem dX8_siege_37 : decode cX8_siege 37 = .ok (.aload_n 0, 1) := by decide +kernel
theorem dX8_siege_38 : decode cX8_siege 38 = .ok (.getfield 19, 3) := by decide +kernel
theorem dX8_siege_41 : decode cX8_siege 41 = .ok (.iload_n 1, 1) := by decide +kernel
theorem dX8_siege_42 : decode cX8_siege 42 = .ok (.invokevirtual 170, 3) := by decide +kernel
theorem dX8_siege_45 : decode cX8_siege 45 = .ok (.iload_n 2, 1) := by decide +kernel
theorem dX8_siege_46 : decode cX8_siege 46 = .ok (.ifCond .ne 11, 3) := by decide +kernel
theorem dX8_siege_49 : decode cX8_siege 49 = .ok (.aload_n 0, 1) := by decide +kernel
theorem dX8_siege_50 : decode cX8_siege 50 = .ok (.getfield 39, 3) := by decide +kernel
theorem dX8_siege_53 : decode cX8_siege 53 = .ok (.getfield 174, 3) := by decide +kernel
theorem dX8_siege_56 : decode cX8_siege 56 = .ok (.ireturn, 1) := by decide +kernel
theorem dX8_siege_57 : decode cX8_siege 57 = .ok (.iload_n 2, 1) := by decide +kernel
theorem dX8_siege_58 : decode cX8_siege 58 = .ok (.iconst 1, 1) := by decide +kernel
theorem dX8_siege_59 : decode cX8_siege 59 = .ok (.if_icmp .ne 13, 3) := by decide +kernel
theorem dX8_siege_62 : decode cX8_siege 62 = .ok (.aload_n 0, 1) := by decide +kernel
theorem dX8_siege_63 : decode cX8_siege 63 = .ok (.getfield 39, 3) := by decide +kernel
theorem dX8_siege_66 : decode cX8_siege 66 = .ok (.getfield 176, 3) := by decide +kernel
theorem dX8_siege_69 : decode cX8_siege 69 = .ok (.goto 14, 3) := by decide +kernel
theorem dX8_siege_72 : decode cX8_siege 72 = .ok (.aload_n 0, 1) := by decide +kernel
theorem dX8_siege_73 : decode cX8_siege 73 = .ok (.getfield 39, 3) := by decide +kernel
theorem dX8_siege_76 : decode cX8_siege 76 = .ok (.iload_n 2, 1) := by decide +kernel
theorem dX8_siege_77 : decode cX8_siege 77 = .ok (.bipush 10, 2) := by decide +kernel
theorem dX8_siege_79 : decode cX8_siege 79 = .ok (.isub, 1) := by decide +kernel
theorem dX8_siege_80 : decode cX8_siege 80 = .ok (.invokevirtual 179, 3) := by decide +kernel
theorem dX8_siege_83 : decode cX8_siege 83 = .ok (.ireturn, 1) := by decide +kernel
