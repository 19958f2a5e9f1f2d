theorem dX5_init_0 : decode cX5_init 0 = .ok (.aload_n 0, 1) := by decide +kernel
theorem dX5_init_1 : decode cX5_init 1 = .ok (.invokespecial 3, 3) := by decide +kernel
theorem dX5_init_4 : decode cX5_init 4 = .ok (.aload_n 0, 1) := by decide +kernel
theorem dX5_init_5 : decode cX5_init 5 = .ok (.bipush 32, 2) := by decide +kernel
theorem dX5_init_7 : decode cX5_init 7 = .ok (.newarray .int, 2) := by decide +kernel
theorem dX5_init_9 : decode cX5_init 9 = .ok (.putfield 9, 3) := by decide +kernel
theorem dX5_init_12 : decode cX5_init 12 = .ok (.return_, 1) := by decide +kernel
theorem dX5_add_0 : decode cX5_add 0 = .ok (.aload_n 0, 1) := by decide +kernel
theorem dX5_add_1 : decode cX5_add 1 = .ok (.getfield 15, 3) := by decide +kernel
theorem dX5_add_4 : decode cX5_add 4 = .ok (.aload_n 0, 1) := by decide +kernel
theorem dX5_add_5 : decode cX5_add 5 = .ok (.getfield 9, 3) := by decide +kernel
theorem dX5_add_8 : decode cX5_add 8 = .ok (.arraylength, 1) := by decide +kernel
theorem dX5_add_9 : decode cX5_add 9 = .ok (.if_icmp .lt 5, 3) := by decide +kernel
theorem dX5_add_12 : decode cX5_add 12 = .ok (.iconst 0, 1) := by decide +kernel
theorem dX5_add_13 : decode cX5_add 13 = .ok (.ireturn, 1) := by decide +kernel
theorem dX5_add_14 : decode cX5_add 14 = .ok (.aload_n 0, 1) := by decide +kernel
theorem dX5_add_15 : decode cX5_add 15 = .ok (.getfield 9, 3) := by decide +kernel
theorem dX5_add_18 : decode cX5_add 18 = .ok (.aload_n 0, 1) := by decide +kernel
theorem dX5_add_19 : decode cX5_add 19 = .ok (.getfield 15, 3) := by decide +kernel
theorem dX5_add_22 : decode cX5_add 22 = .ok (.iload_n 1, 1) := by decide +kernel
theorem dX5_add_23 : decode cX5_add 23 = .ok (.iastore, 1) := by decide +kernel
theorem dX5_add_24 : decode cX5_add 24 = .ok (.aload_n 0, 1) := by decide +kernel
theorem dX5_add_25 : decode cX5_add 25 = .ok (.dup, 1) := by decide +kernel
theorem dX5_add_26 : decode cX5_add 26 = .ok (.getfield 15, 3) := by decide +kernel
theorem dX5_add_29 : decode cX5_add 29 = .ok (.iconst 1, 1) := by decide +kernel
theorem dX5_add_30 : decode cX5_add 30 = .ok (.iadd, 1) := by decide +kernel
theorem dX5_add_31 : decode cX5_add 31 = .ok (.putfield 15, 3) := by decide +kernel
theorem dX5_add_34 : decode cX5_add 34 = .ok (.iconst 1, 1) := by decide +kernel
theorem dX5_add_35 : decode cX5_add 35 = .ok (.ireturn, 1) := by decide +kernel
set_option maxRecDepth 20000 in
theorem ggX5_firstFault_X5_fitsThings : GoodIn wsX5_firstFault wsX5_fitsThings := goodIn_r _ [7, 2, 8, 9, 10, 11, 12, 13, 14, 15, 16, 17, 18, 19, 20, 21, 22, 23, 24, 25, 26, 27, 28, 29, 30, 31, 32, 33, 34, 35, 36, 37, 38, 39, 40, 41, 42, 43, 44, 45, 46, 47, 48, 49, 50, 51, 52, 53, 54, 55, 56, 57, 58, 59, 60, 61, 62, 63, 64, 65, 66, 67, 68, 69, 70, 71, 72, 73, 74, 75, 76, 77, 78, 79, 80, 81, 82, 83, 84, 85, 86, 87, 88, 89, 90, 91, 92, 93, 94, 95, 96, 97, 98, 6, 99, 100, 101, 102, 107, 108] (by decide +kernel) (by decide +kernel)
set_option maxRecDepth 20000 in
theorem gX5_firstFault_X5_fitsThings : GoodIn wsX5_firstFault (wsV RX5 19 RX5 yX5_fitsThings wsX5_fitsThings) := goodIn_app (goodIn_of _ (by decide +kernel)) ggX5_firstFault_X5_fitsThings
set_option maxRecDepth 20000 in
theorem ggX5_firstFault_X5_fitsDebt : GoodIn wsX5_firstFault wsX5_fitsDebt := goodIn_r _ [106, 2, 97, 98, 6, 99, 107, 108] (by decide +kernel) (by decide +kernel)
set_option maxRecDepth 20000 in
theorem gX5_firstFault_X5_fitsDebt : GoodIn wsX5_firstFault (wsV RX5 23 RX5 yX5_fitsDebt wsX5_fitsDebt) := goodIn_app (goodIn_of _ (by decide +kernel)) ggX5_firstFault_X5_fitsDebt
theorem dX5_firstFault_0 : decode cX5_firstFault 0 = .ok (.iconst (-1), 1) := by decide +kernel
theorem dX5_firstFault_1 : decode cX5_firstFault 1 = .ok (.istore_n 1, 1) := by decide +kernel
theorem dX5_firstFault_2 : decode cX5_firstFault 2 = .ok (.iconst 0, 1) := by decide +kernel
theorem dX5_firstFault_3 : decode cX5_firstFault 3 = .ok (.istore_n 2, 1) := by decide +kernel
theorem dX5_firstFault_4 : decode cX5_firstFault 4 = .ok (.iload_n 2, 1) := by decide +kernel
theorem dX5_firstFault_5 : decode cX5_firstFault 5 = .ok (.aload_n 0, 1) := by decide +kernel
theorem dX5_firstFault_6 : decode cX5_firstFault 6 = .ok (.getfield 15, 3) := by decide +kernel
theorem dX5_firstFault_9 : decode cX5_firstFault 9 = .ok (.if_icmp .ge 48, 3) := by decide +kernel
theorem dX5_firstFault_12 : decode cX5_firstFault 12 = .ok (.iload_n 1, 1) := by decide +kernel
theorem dX5_firstFault_13 : decode cX5_firstFault 13 = .ok (.iconst (-1), 1) := by decide +kernel
theorem dX5_firstFault_14 : decode cX5_firstFault 14 = .ok (.if_icmp .ne 11, 3) := by decide +kernel
theorem dX5_firstFault_17 : decode cX5_firstFault 17 = .ok (.aload_n 0, 1) := by decide +kernel
theorem dX5_firstFault_18 : decode cX5_firstFault 18 = .ok (.iload_n 2, 1) := by decide +kernel
theorem dX5_firstFault_19 : decode cX5_firstFault 19 = .ok (.invokevirtual 19, 3) := by decide +kernel
theorem dX5_firstFault_22 : decode cX5_firstFault 22 = .ok (.goto 9, 3) := by decide +kernel
theorem dX5_firstFault_25 : decode cX5_firstFault 25 = .ok (.aload_n 0, 1) := by decide +kernel
theorem dX5_firstFault_26 : decode cX5_firstFault 26 = .ok (.iload_n 2, 1) := by decide +kernel
theorem dX5_firstFault_27 : decode cX5_firstFault 27 = .ok (.iload_n 1, 1) := by decide +kernel
theorem dX5_firstFault_28 : decode cX5_firstFault 28 = .ok (.invokevirtual 23, 3) := by decide +kernel
theorem dX5_firstFault_31 : decode cX5_firstFault 31 = .ok (.istore_n 3, 1) := by decide +kernel
theorem dX5_firstFault_32 : decode cX5_firstFault 32 = .ok (.iload_n 3, 1) := by decide +kernel
theorem dX5_firstFault_33 : decode cX5_firstFault 33 = .ok (.ifCond .ne 5, 3) := by decide +kernel
theorem dX5_firstFault_36 : decode cX5_firstFault 36 = .ok (.iload_n 2, 1) := by decide +kernel
theorem dX5_firstFault_37 : decode cX5_firstFault 37 = .ok (.ireturn, 1) := by decide +kernel
theorem dX5_firstFault_38 : decode cX5_firstFault 38 = .ok (.aload_n 0, 1) := by decide +kernel
theorem dX5_firstFault_39 : decode cX5_firstFault 39 = .ok (.getfield 9, 3) := by decide +kernel
theorem dX5_firstFault_42 : decode cX5_firstFault 42 = .ok (.iload_n 2, 1) := by decide +kernel
theorem dX5_firstFault_43 : decode cX5_firstFault 43 = .ok (.iaload, 1) := by decide +kernel
theorem dX5_firstFault_44 : decode cX5_firstFault 44 = .ok (.bipush 59, 2) := by decide +kernel
theorem dX5_firstFault_46 : decode cX5_firstFault 46 = .ok (.if_icmp .ne 5, 3) := by decide +kernel
theorem dX5_firstFault_49 : decode cX5_firstFault 49 = .ok (.iload_n 2, 1) := by decide +kernel
theorem dX5_firstFault_50 : decode cX5_firstFault 50 = .ok (.istore_n 1, 1) := by decide +kernel
theorem dX5_firstFault_51 : decode cX5_firstFault 51 = .ok (.iinc 2 1, 3) := by decide +kernel
theorem dX5_firstFault_54 : decode cX5_firstFault 54 = .ok (.goto (-50), 3) := by decide +kernel
theorem dX5_firstFault_57 : decode cX5_firstFault 57 = .ok (.aload_n 0, 1) := by decide +kernel
theorem dX5_firstFault_58 : decode cX5_firstFault 58 = .ok (.getfield 15, 3) := by decide +kernel
theorem dX5_firstFault_61 : decode cX5_firstFault 61 = .ok (.ireturn, 1) := by decide +kernel
set_option maxRecDepth 20000 in
theorem ggX5_isHouse_X5_firstFault : GoodIn wsX5_isHouse wsX5_firstFault := goodIn_r _ [7, 1, 2, 8, 9, 10, 6, 11, 12, 13, 14, 15, 16, 17, 18, 19, 20, 21, 22, 23, 24, 25, 26, 27, 28, 29, 30, 31, 32, 33, 34, 35, 36, 37, 38, 39, 40, 41, 42, 43, 44, 45, 46, 47, 48, 49, 50, 51, 52, 53, 54, 55, 56, 57, 58, 59, 60, 61, 62, 63, 64, 65, 66, 67, 68, 69, 70, 71, 72, 73, 74, 75, 76, 77, 78, 79, 80, 81, 82, 83, 84, 85, 86, 87, 88, 89, 90, 91, 92, 93, 94, 95, 96, 97, 98, 99, 100, 101, 102, 103, 104, 105, 106, 107, 108, 109, 110, 111, 112] (by decide +kernel) (by decide +kernel)
set_option maxRecDepth 20000 in
theorem gX5_isHouse_X5_firstFault : GoodIn wsX5_isHouse (wsV RX5 27 RX5 yX5_firstFault wsX5_firstFault) := goodIn_app (goodIn_of _ (by decide +kernel)) ggX5_isHouse_X5_firstFault
theorem dX5_isHouse_0 : decode cX5_isHouse 0 = .ok (.aload_n 0, 1) := by decide +kernel
theorem dX5_isHouse_1 : decode cX5_isHouse 1 = .ok (.getfield 15, 3) := by decide +kernel
theorem dX5_isHouse_4 : decode cX5_isHouse 4 = .ok (.iconst 3, 1) := by decide +kernel
theorem dX5_isHouse_5 : decode cX5_isHouse 5 = .ok (.if_icmp .lt 34, 3) := by decide +kernel
theorem dX5_isHouse_8 : decode cX5_isHouse 8 = .ok (.aload_n 0, 1) := by decide +kernel
theorem dX5_isHouse_9 : decode cX5_isHouse 9 = .ok (.invokevirtual 27, 3) := by decide +kernel
theorem dX5_isHouse_12 : decode cX5_isHouse 12 = .ok (.aload_n 0, 1) := by decide +kernel
theorem dX5_isHouse_13 : decode cX5_isHouse 13 = .ok (.getfield 15, 3) := by decide +kernel
theorem dX5_isHouse_16 : decode cX5_isHouse 16 = .ok (.if_icmp .ne 23, 3) := by decide +kernel
theorem dX5_isHouse_19 : decode cX5_isHouse 19 = .ok (.aload_n 0, 1) := by decide +kernel
theorem dX5_isHouse_20 : decode cX5_isHouse 20 = .ok (.getfield 9, 3) := by decide +kernel
theorem dX5_isHouse_23 : decode cX5_isHouse 23 = .ok (.aload_n 0, 1) := by decide +kernel
theorem dX5_isHouse_24 : decode cX5_isHouse 24 = .ok (.getfield 15, 3) := by decide +kernel
theorem dX5_isHouse_27 : decode cX5_isHouse 27 = .ok (.iconst 3, 1) := by decide +kernel
theorem dX5_isHouse_28 : decode cX5_isHouse 28 = .ok (.isub, 1) := by decide +kernel
theorem dX5_isHouse_29 : decode cX5_isHouse 29 = .ok (.iaload, 1) := by decide +kernel
theorem dX5_isHouse_30 : decode cX5_isHouse 30 = .ok (.bipush 59, 2) := by decide +kernel
theorem dX5_isHouse_32 : decode cX5_isHouse 32 = .ok (.if_icmp .ne 7, 3) := by decide +kernel
theorem dX5_isHouse_35 : decode cX5_isHouse 35 = .ok (.iconst 1, 1) := by decide +kernel
theorem dX5_isHouse_36 : decode cX5_isHouse 36 = .ok (.goto 4, 3) := by decide +kernel
theorem dX5_isHouse_39 : decode cX5_isHouse 39 = .ok (.iconst 0, 1) := by decide +kernel
theorem dX5_isHouse_40 : decode cX5_isHouse 40 = .ok (.ireturn, 1) := by decide +kernel
set_option maxRecDepth 20000 in
theorem ggX5_readInto_J0_indexOf_0f7a4 : GoodIn wsX5_readInto wsJ0_indexOf_0f7a4 := goodIn_r _ [20, 21, 22, 23, 19, 24, 25, 26, 27, 28, 29, 30, 31, 32, 33, 34, 35, 36, 37, 38, 39, 40, 41, 42, 43, 44, 45, 4, 46, 47, 3, 5, 48, 49, 50, 51, 52, 53, 54, 55, 56, 57, 58, 59, 60, 61, 62, 63, 64, 65, 66, 67, 68, 69, 70, 71, 72, 73, 74, 75, 76, 77, 78, 79, 80, 81, 82, 83, 84, 85, 86, 87, 88, 89, 90, 91, 92, 93, 94, 95, 96, 97, 98, 99, 100, 101] (by decide +kernel) (by decide +kernel)
set_option maxRecDepth 20000 in
theorem gX5_readInto_J0_indexOf_0f7a4 : GoodIn wsX5_readInto (wsV RX5 45 RJ0 yJ0_indexOf_0f7a4 wsJ0_indexOf_0f7a4) := goodIn_app (goodIn_of _ (by decide +kernel)) ggX5_readInto_J0_indexOf_0f7a4
theorem dX5_readInto_0 : decode cX5_readInto 0 = .ok (.aload_n 1, 1) := by decide +kernel
theorem dX5_readInto_1 : decode cX5_readInto 1 = .ok (.bipush 7, 2) := by decide +kernel
theorem dX5_readInto_3 : decode cX5_readInto 3 = .ok (.aload_n 0, 1) := by decide +kernel
theorem dX5_readInto_4 : decode cX5_readInto 4 = .ok (.getfield 15, 3) := by decide +kernel
theorem dX5_readInto_7 : decode cX5_readInto 7 = .ok (.iconst 2, 1) := by decide +kernel
theorem dX5_readInto_8 : decode cX5_readInto 8 = .ok (.isub, 1) := by decide +kernel
theorem dX5_readInto_9 : decode cX5_readInto 9 = .ok (.iconst 4, 1) := by decide +kernel
theorem dX5_readInto_10 : decode cX5_readInto 10 = .ok (.idiv, 1) := by decide +kernel
theorem dX5_readInto_11 : decode cX5_readInto 11 = .ok (.invokestatic 31, 3) := by decide +kernel
theorem dX5_readInto_14 : decode cX5_readInto 14 = .ok (.putfield 37, 3) := by decide +kernel
theorem dX5_readInto_17 : decode cX5_readInto 17 = .ok (.iconst 0, 1) := by decide +kernel
theorem dX5_readInto_18 : decode cX5_readInto 18 = .ok (.istore_n 2, 1) := by decide +kernel
theorem dX5_readInto_19 : decode cX5_readInto 19 = .ok (.iload_n 2, 1) := by decide +kernel
theorem dX5_readInto_20 : decode cX5_readInto 20 = .ok (.aload_n 1, 1) := by decide +kernel
theorem dX5_readInto_21 : decode cX5_readInto 21 = .ok (.getfield 37, 3) := by decide +kernel
theorem dX5_readInto_24 : decode cX5_readInto 24 = .ok (.if_icmp .ge 74, 3) := by decide +kernel
theorem dX5_readInto_27 : decode cX5_readInto 27 = .ok (.aload_n 1, 1) := by decide +kernel
theorem dX5_readInto_28 : decode cX5_readInto 28 = .ok (.getfield 40, 3) := by decide +kernel
theorem dX5_readInto_31 : decode cX5_readInto 31 = .ok (.iload_n 2, 1) := by decide +kernel
theorem dX5_readInto_32 : decode cX5_readInto 32 = .ok (.ldc 43, 2) := by decide +kernel
theorem dX5_readInto_34 : decode cX5_readInto 34 = .ok (.aload_n 0, 1) := by decide +kernel
theorem dX5_readInto_35 : decode cX5_readInto 35 = .ok (.getfield 9, 3) := by decide +kernel
theorem dX5_readInto_38 : decode cX5_readInto 38 = .ok (.iconst 4, 1) := by decide +kernel
theorem dX5_readInto_39 : decode cX5_readInto 39 = .ok (.iload_n 2, 1) := by decide +kernel
theorem dX5_readInto_40 : decode cX5_readInto 40 = .ok (.imul, 1) := by decide +kernel
theorem dX5_readInto_41 : decode cX5_readInto 41 = .ok (.iaload, 1) := by decide +kernel
theorem dX5_readInto_42 : decode cX5_readInto 42 = .ok (.i2c, 1) := by decide +kernel
theorem dX5_readInto_43 : decode cX5_readInto 43 = .ok (.invokevirtual 45, 3) := by decide +kernel
theorem dX5_readInto_46 : decode cX5_readInto 46 = .ok (.iastore, 1) := by decide +kernel
theorem dX5_readInto_47 : decode cX5_readInto 47 = .ok (.aload_n 1, 1) := by decide +kernel
theorem dX5_readInto_48 : decode cX5_readInto 48 = .ok (.getfield 51, 3) := by decide +kernel
theorem dX5_readInto_51 : decode cX5_readInto 51 = .ok (.iload_n 2, 1) := by decide +kernel
theorem dX5_readInto_52 : decode cX5_readInto 52 = .ok (.aload_n 0, 1) := by decide +kernel
theorem dX5_readInto_53 : decode cX5_readInto 53 = .ok (.getfield 9, 3) := by decide +kernel
theorem dX5_readInto_56 : decode cX5_readInto 56 = .ok (.iconst 4, 1) := by decide +kernel
theorem dX5_readInto_57 : decode cX5_readInto 57 = .ok (.iload_n 2, 1) := by decide +kernel
theorem dX5_readInto_58 : decode cX5_readInto 58 = .ok (.imul, 1) := by decide +kernel
theorem dX5_readInto_59 : decode cX5_readInto 59 = .ok (.iconst 1, 1) := by decide +kernel
theorem dX5_readInto_60 : decode cX5_readInto 60 = .ok (.iadd, 1) := by decide +kernel
theorem dX5_readInto_61 : decode cX5_readInto 61 = .ok (.iaload, 1) := by decide +kernel
theorem dX5_readInto_62 : decode cX5_readInto 62 = .ok (.bipush 48, 2) := by decide +kernel
theorem dX5_readInto_64 : decode cX5_readInto 64 = .ok (.isub, 1) := by decide +kernel
theorem dX5_readInto_65 : decode cX5_readInto 65 = .ok (.iastore, 1) := by decide +kernel
theorem dX5_readInto_66 : decode cX5_readInto 66 = .ok (.aload_n 1, 1) := by decide +kernel
theorem dX5_readInto_67 : decode cX5_readInto 67 = .ok (.getfield 54, 3) := by decide +kernel
theorem dX5_readInto_70 : decode cX5_readInto 70 = .ok (.iload_n 2, 1) := by decide +kernel
theorem dX5_readInto_71 : decode cX5_readInto 71 = .ok (.aload_n 0, 1) := by decide +kernel
theorem dX5_readInto_72 : decode cX5_readInto 72 = .ok (.getfield 9, 3) := by decide +kernel
theorem dX5_readInto_75 : decode cX5_readInto 75 = .ok (.iconst 4, 1) := by decide +kernel
theorem dX5_readInto_76 : decode cX5_readInto 76 = .ok (.iload_n 2, 1) := by decide +kernel
theorem dX5_readInto_77 : decode cX5_readInto 77 = .ok (.imul, 1) := by decide +kernel
theorem dX5_readInto_78 : decode cX5_readInto 78 = .ok (.iconst 2, 1) := by decide +kernel
theorem dX5_readInto_79 : decode cX5_readInto 79 = .ok (.iadd, 1) := by decide +kernel
theorem dX5_readInto_80 : decode cX5_readInto 80 = .ok (.iaload, 1) := by decide +kernel
theorem dX5_readInto_81 : decode cX5_readInto 81 = .ok (.bipush 48, 2) := by decide +kernel
theorem dX5_readInto_83 : decode cX5_readInto 83 = .ok (.isub, 1) := by decide +kernel
theorem dX5_readInto_84 : decode cX5_readInto 84 = .ok (.iastore, 1) := by decide +kernel
theorem dX5_readInto_85 : decode cX5_readInto 85 = .ok (.aload_n 1, 1) := by decide +kernel
theorem dX5_readInto_86 : decode cX5_readInto 86 = .ok (.getfield 57, 3) := by decide +kernel
theorem dX5_readInto_89 : decode cX5_readInto 89 = .ok (.iload_n 2, 1) := by decide +kernel
theorem dX5_readInto_90 : decode cX5_readInto 90 = .ok (.iconst 0, 1) := by decide +kernel
theorem dX5_readInto_91 : decode cX5_readInto 91 = .ok (.iastore, 1) := by decide +kernel
theorem dX5_readInto_92 : decode cX5_readInto 92 = .ok (.iinc 2 1, 3) := by decide +kernel
theorem dX5_readInto_95 : decode cX5_readInto 95 = .ok (.goto (-76), 3) := by decide +kernel
theorem dX5_readInto_98 : decode cX5_readInto 98 = .ok (.aload_n 1, 1) := by decide +kernel
theorem dX5_readInto_99 : decode cX5_readInto 99 = .ok (.bipush 10, 2) := by decide +kernel
theorem dX5_readInto_101 : decode cX5_readInto 101 = .ok (.aload_n 0, 1) := by decide +kernel
theorem dX5_readInto_102 : decode cX5_readInto 102 = .ok (.getfield 9, 3) := by decide +kernel
theorem dX5_readInto_105 : decode cX5_readInto 105 = .ok (.aload_n 0, 1) := by decide +kernel
theorem dX5_readInto_106 : decode cX5_readInto 106 = .ok (.getfield 15, 3) := by decide +kernel
theorem dX5_readInto_109 : decode cX5_readInto 109 = .ok (.iconst 2, 1) := by decide +kernel
theorem dX5_readInto_110 : decode cX5_readInto 110 = .ok (.isub, 1) := by decide +kernel
theorem dX5_readInto_111 : decode cX5_readInto 111 = .ok (.iaload, 1) := by decide +kernel
theorem dX5_readInto_112 : decode cX5_readInto 112 = .ok (.bipush 48, 2) := by decide +kernel
theorem dX5_readInto_114 : decode cX5_readInto 114 = .ok (.isub, 1) := by decide +kernel
theorem dX5_readInto_115 : decode cX5_readInto 115 = .ok (.imul, 1) := by decide +kernel
theorem dX5_readInto_116 : decode cX5_readInto 116 = .ok (.aload_n 0, 1) := by decide +kernel
theorem dX5_readInto_117 : decode cX5_readInto 117 = .ok (.getfield 9, 3) := by decide +kernel
theorem dX5_readInto_120 : decode cX5_readInto 120 = .ok (.aload_n 0, 1) := by decide +kernel
theorem dX5_readInto_121 : decode cX5_readInto 121 = .ok (.getfield 15, 3) := by decide +kernel
theorem dX5_readInto_124 : decode cX5_readInto 124 = .ok (.iconst 1, 1) := by decide +kernel
theorem dX5_readInto_125 : decode cX5_readInto 125 = .ok (.isub, 1) := by decide +kernel
theorem dX5_readInto_126 : decode cX5_readInto 126 = .ok (.iaload, 1) := by decide +kernel
theorem dX5_readInto_127 : decode cX5_readInto 127 = .ok (.bipush 48, 2) := by decide +kernel
theorem dX5_readInto_129 : decode cX5_readInto 129 = .ok (.isub, 1) := by decide +kernel
theorem dX5_readInto_130 : decode cX5_readInto 130 = .ok (.iadd, 1) := by decide +kernel
theorem dX5_readInto_131 : decode cX5_readInto 131 = .ok (.putfield 60, 3) := by decide +kernel
theorem dX5_readInto_134 : decode cX5_readInto 134 = .ok (.aload_n 1, 1) := by decide +kernel
theorem dX5_readInto_135 : decode cX5_readInto 135 = .ok (.iconst 0, 1) := by decide +kernel
theorem dX5_readInto_136 : decode cX5_readInto 136 = .ok (.putfield 63, 3) := by decide +kernel
theorem dX5_readInto_139 : decode cX5_readInto 139 = .ok (.aload_n 1, 1) := by decide +kernel
theorem dX5_readInto_140 : decode cX5_readInto 140 = .ok (.iconst 0, 1) := by decide +kernel
theorem dX5_readInto_141 : decode cX5_readInto 141 = .ok (.putfield 66, 3) := by decide +kernel
theorem dX5_readInto_144 : decode cX5_readInto 144 = .ok (.aload_n 1, 1) := by decide +kernel
theorem dX5_readInto_145 : decode cX5_readInto 145 = .ok (.iconst 0, 1) := by decide +kernel
theorem dX5_readInto_146 : decode cX5_readInto 146 = .ok (.putfield 69, 3) := by decide +kernel
theorem dX5_readInto_149 : decode cX5_readInto 149 = .ok (.return_, 1) := by decide +kernel
set_option maxRecDepth 20000 in
theorem ggX5_fitsThings_J0_indexOf_0f7a4 : GoodIn wsX5_fitsThings wsJ0_indexOf_0f7a4 := goodIn_r _ [6, 7, 8, 9, 5, 10, 11, 12, 13, 14, 15, 16, 17, 18, 19, 20, 21, 22, 23, 24, 25, 26, 27, 28, 29, 30, 31, 32, 33, 34, 35, 36, 37, 38, 39, 40, 41, 42, 43, 44, 45, 46, 47, 48, 49, 50, 51, 52, 53, 54, 55, 56, 57, 58, 59, 60, 61, 62, 63, 64, 65, 66, 67, 68, 69, 70, 71, 72, 73, 74, 75, 76, 77, 78, 79, 80, 81, 82, 83, 84, 85, 86, 87, 88, 89, 90] (by decide +kernel) (by decide +kernel)
set_option maxRecDepth 20000 in
theorem gX5_fitsThings_J0_indexOf_0f7a4 : GoodIn wsX5_fitsThings (wsV RX5 45 RJ0 yJ0_indexOf_0f7a4 wsJ0_indexOf_0f7a4) := goodIn_app (goodIn_of _ (by decide +kernel)) ggX5_fitsThings_J0_indexOf_0f7a4
set_option maxRecDepth 20000 in
theorem ggX5_fitsThings_X5_isDigit : GoodIn wsX5_fitsThings wsX5_isDigit := goodIn_r _ [94] (by decide +kernel) (by decide +kernel)
set_option maxRecDepth 20000 in
theorem gX5_fitsThings_X5_isDigit : GoodIn wsX5_fitsThings (va_wsS RX5 72 yX5_isDigit wsX5_isDigit) := goodIn_app (goodIn_of _ (by decide +kernel)) ggX5_fitsThings_X5_isDigit
set_option maxRecDepth 20000 in
theorem ggX5_fitsThings_X5_fitsBehindThings : GoodIn wsX5_fitsThings wsX5_fitsBehindThings := goodIn_r _ [97] (by decide +kernel) (by decide +kernel)
set_option maxRecDepth 20000 in
theorem gX5_fitsThings_X5_fitsBehindThings : GoodIn wsX5_fitsThings (va_wsS RX5 75 yX5_fitsBehindThings wsX5_fitsBehindThings) := goodIn_app (goodIn_of _ (by decide +kernel)) ggX5_fitsThings_X5_fitsBehindThings
theorem dX5_fitsThings_0 : decode cX5_fitsThings 0 = .ok (.aload_n 0, 1) := by decide +kernel
theorem dX5_fitsThings_1 : decode cX5_fitsThings 1 = .ok (.getfield 9, 3) := by decide +kernel
theorem dX5_fitsThings_4 : decode cX5_fitsThings 4 = .ok (.iload_n 1, 1) := by decide +kernel
theorem dX5_fitsThings_5 : decode cX5_fitsThings 5 = .ok (.iaload, 1) := by decide +kernel
theorem dX5_fitsThings_6 : decode cX5_fitsThings 6 = .ok (.istore_n 2, 1) := by decide +kernel
theorem dX5_fitsThings_7 : decode cX5_fitsThings 7 = .ok (.iload_n 1, 1) := by decide +kernel
theorem dX5_fitsThings_8 : decode cX5_fitsThings 8 = .ok (.iconst 4, 1) := by decide +kernel
theorem dX5_fitsThings_9 : decode cX5_fitsThings 9 = .ok (.irem, 1) := by decide +kernel
theorem dX5_fitsThings_10 : decode cX5_fitsThings 10 = .ok (.tableswitch 66 0 2 #[26, 42, 61], 26) := by decide +kernel
theorem dX5_fitsThings_36 : decode cX5_fitsThings 36 = .ok (.ldc 43, 2) := by decide +kernel
theorem dX5_fitsThings_38 : decode cX5_fitsThings 38 = .ok (.iload_n 2, 1) := by decide +kernel
theorem dX5_fitsThings_39 : decode cX5_fitsThings 39 = .ok (.i2c, 1) := by decide +kernel
theorem dX5_fitsThings_40 : decode cX5_fitsThings 40 = .ok (.invokevirtual 45, 3) := by decide +kernel
theorem dX5_fitsThings_43 : decode cX5_fitsThings 43 = .ok (.ifCond .lt 7, 3) := by decide +kernel
theorem dX5_fitsThings_46 : decode cX5_fitsThings 46 = .ok (.iconst 1, 1) := by decide +kernel
theorem dX5_fitsThings_47 : decode cX5_fitsThings 47 = .ok (.goto 4, 3) := by decide +kernel
theorem dX5_fitsThings_50 : decode cX5_fitsThings 50 = .ok (.iconst 0, 1) := by decide +kernel
theorem dX5_fitsThings_51 : decode cX5_fitsThings 51 = .ok (.ireturn, 1) := by decide +kernel
theorem dX5_fitsThings_52 : decode cX5_fitsThings 52 = .ok (.iload_n 2, 1) := by decide +kernel
theorem dX5_fitsThings_53 : decode cX5_fitsThings 53 = .ok (.bipush 48, 2) := by decide +kernel
theorem dX5_fitsThings_55 : decode cX5_fitsThings 55 = .ok (.if_icmp .eq 14, 3) := by decide +kernel
theorem dX5_fitsThings_58 : decode cX5_fitsThings 58 = .ok (.iload_n 2, 1) := by decide +kernel
theorem dX5_fitsThings_59 : decode cX5_fitsThings 59 = .ok (.invokestatic 72, 3) := by decide +kernel
theorem dX5_fitsThings_62 : decode cX5_fitsThings 62 = .ok (.ifCond .eq 7, 3) := by decide +kernel
theorem dX5_fitsThings_65 : decode cX5_fitsThings 65 = .ok (.iconst 1, 1) := by decide +kernel
theorem dX5_fitsThings_66 : decode cX5_fitsThings 66 = .ok (.goto 4, 3) := by decide +kernel
theorem dX5_fitsThings_69 : decode cX5_fitsThings 69 = .ok (.iconst 0, 1) := by decide +kernel
theorem dX5_fitsThings_70 : decode cX5_fitsThings 70 = .ok (.ireturn, 1) := by decide +kernel
theorem dX5_fitsThings_71 : decode cX5_fitsThings 71 = .ok (.iload_n 2, 1) := by decide +kernel
theorem dX5_fitsThings_72 : decode cX5_fitsThings 72 = .ok (.invokestatic 72, 3) := by decide +kernel
theorem dX5_fitsThings_75 : decode cX5_fitsThings 75 = .ok (.ireturn, 1) := by decide +kernel
theorem dX5_fitsThings_76 : decode cX5_fitsThings 76 = .ok (.iload_n 1, 1) := by decide +kernel
theorem dX5_fitsThings_77 : decode cX5_fitsThings 77 = .ok (.iconst 4, 1) := by decide +kernel
theorem dX5_fitsThings_78 : decode cX5_fitsThings 78 = .ok (.idiv, 1) := by decide +kernel
theorem dX5_fitsThings_79 : decode cX5_fitsThings 79 = .ok (.iconst 1, 1) := by decide +kernel
theorem dX5_fitsThings_80 : decode cX5_fitsThings 80 = .ok (.iadd, 1) := by decide +kernel
theorem dX5_fitsThings_81 : decode cX5_fitsThings 81 = .ok (.iload_n 2, 1) := by decide +kernel
theorem dX5_fitsThings_82 : decode cX5_fitsThings 82 = .ok (.invokestatic 75, 3) := by decide +kernel
theorem dX5_fitsThings_85 : decode cX5_fitsThings 85 = .ok (.ireturn, 1) := by decide +kernel
set_option maxRecDepth 20000 in
theorem ggX5_fitsDebt_X5_isDigit : GoodIn wsX5_fitsDebt wsX5_isDigit := goodIn_r _ [5] (by decide +kernel) (by decide +kernel)
set_option maxRecDepth 20000 in
theorem gX5_fitsDebt_X5_isDigit : GoodIn wsX5_fitsDebt (va_wsS RX5 72 yX5_isDigit wsX5_isDigit) := goodIn_app (goodIn_of _ (by decide +kernel)) ggX5_fitsDebt_X5_isDigit
theorem dX5_fitsDebt_0 : decode cX5_fitsDebt 0 = .ok (.iload_n 1, 1) := by decide +kernel
theorem dX5_fitsDebt_1 : decode cX5_fitsDebt 1 = .ok (.iload_n 2, 1) := by decide +kernel
theorem dX5_fitsDebt_2 : decode cX5_fitsDebt 2 = .ok (.iconst 2, 1) := by decide +kernel
theorem dX5_fitsDebt_3 : decode cX5_fitsDebt 3 = .ok (.iadd, 1) := by decide +kernel
theorem dX5_fitsDebt_4 : decode cX5_fitsDebt 4 = .ok (.if_icmp .gt 19, 3) := by decide +kernel
theorem dX5_fitsDebt_7 : decode cX5_fitsDebt 7 = .ok (.aload_n 0, 1) := by decide +kernel
theorem dX5_fitsDebt_8 : decode cX5_fitsDebt 8 = .ok (.getfield 9, 3) := by decide +kernel
theorem dX5_fitsDebt_11 : decode cX5_fitsDebt 11 = .ok (.iload_n 1, 1) := by decide +kernel
theorem dX5_fitsDebt_12 : decode cX5_fitsDebt 12 = .ok (.iaload, 1) := by decide +kernel
theorem dX5_fitsDebt_13 : decode cX5_fitsDebt 13 = .ok (.invokestatic 72, 3) := by decide +kernel
theorem dX5_fitsDebt_16 : decode cX5_fitsDebt 16 = .ok (.ifCond .eq 7, 3) := by decide +kernel
theorem dX5_fitsDebt_19 : decode cX5_fitsDebt 19 = .ok (.iconst 1, 1) := by decide +kernel
theorem dX5_fitsDebt_20 : decode cX5_fitsDebt 20 = .ok (.goto 4, 3) := by decide +kernel
theorem dX5_fitsDebt_23 : decode cX5_fitsDebt 23 = .ok (.iconst 0, 1) := by decide +kernel
theorem dX5_fitsDebt_24 : decode cX5_fitsDebt 24 = .ok (.ireturn, 1) := by decide +kernel
theorem dX5_fitsBehindThings_0 : decode cX5_fitsBehindThings 0 = .ok (.iload_n 1, 1) := by decide +kernel
theorem dX5_fitsBehindThings_1 : decode cX5_fitsBehindThings 1 = .ok (.bipush 44, 2) := by decide +kernel
theorem dX5_fitsBehindThings_3 : decode cX5_fitsBehindThings 3 = .ok (.if_icmp .ne 9, 3) := by decide +kernel
theorem dX5_fitsBehindThings_6 : decode cX5_fitsBehindThings 6 = .ok (.iload_n 0, 1) := by decide +kernel
theorem dX5_fitsBehindThings_7 : decode cX5_fitsBehindThings 7 = .ok (.bipush 7, 2) := by decide +kernel
theorem dX5_fitsBehindThings_9 : decode cX5_fitsBehindThings 9 = .ok (.if_icmp .lt 14, 3) := by decide +kernel
theorem dX5_fitsBehindThings_12 : decode cX5_fitsBehindThings 12 = .ok (.iload_n 1, 1) := by decide +kernel
theorem dX5_fitsBehindThings_13 : decode cX5_fitsBehindThings 13 = .ok (.bipush 59, 2) := by decide +kernel
theorem dX5_fitsBehindThings_15 : decode cX5_fitsBehindThings 15 = .ok (.if_icmp .ne 12, 3) := by decide +kernel
theorem dX5_fitsBehindThings_18 : decode cX5_fitsBehindThings 18 = .ok (.iload_n 0, 1) := by decide +kernel
theorem dX5_fitsBehindThings_19 : decode cX5_fitsBehindThings 19 = .ok (.iconst 2, 1) := by decide +kernel
theorem dX5_fitsBehindThings_20 : decode cX5_fitsBehindThings 20 = .ok (.if_icmp .lt 7, 3) := by decide +kernel
theorem dX5_fitsBehindThings_23 : decode cX5_fitsBehindThings 23 = .ok (.iconst 1, 1) := by decide +kernel
theorem dX5_fitsBehindThings_24 : decode cX5_fitsBehindThings 24 = .ok (.goto 4, 3) := by decide +kernel
theorem dX5_fitsBehindThings_27 : decode cX5_fitsBehindThings 27 = .ok (.iconst 0, 1) := by decide +kernel
theorem dX5_fitsBehindThings_28 : decode cX5_fitsBehindThings 28 = .ok (.ireturn, 1) := by decide +kernel
theorem dX5_isDigit_0 : decode cX5_isDigit 0 = .ok (.iload_n 0, 1) := by decide +kernel
theorem dX5_isDigit_1 : decode cX5_isDigit 1 = .ok (.bipush 48, 2) := by decide +kernel
theorem dX5_isDigit_3 : decode cX5_isDigit 3 = .ok (.if_icmp .lt 13, 3) := by decide +kernel
theorem dX5_isDigit_6 : decode cX5_isDigit 6 = .ok (.iload_n 0, 1) := by decide +kernel
theorem dX5_isDigit_7 : decode cX5_isDigit 7 = .ok (.bipush 57, 2) := by decide +kernel
theorem dX5_isDigit_9 : decode cX5_isDigit 9 = .ok (.if_icmp .gt 7, 3) := by decide +kernel
theorem dX5_isDigit_12 : decode cX5_isDigit 12 = .ok (.iconst 1, 1) := by decide +kernel
theorem dX5_isDigit_13 : decode cX5_isDigit 13 = .ok (.goto 4, 3) := by decide +kernel
theorem dX5_isDigit_16 : decode cX5_isDigit 16 = .ok (.iconst 0, 1) := by decide +kernel
theorem dX5_isDigit_17 : decode cX5_isDigit 17 = .ok (.ireturn, 1) := by decide +kernel
