theorem dX3_init_0 : decode cX3_init 0 = .ok (.aload_n 0, 1) := by decide +kernel
theorem dX3_init_1 : decode cX3_init 1 = .ok (.invokespecial 3, 3) := by decide +kernel
theorem dX3_init_4 : decode cX3_init 4 = .ok (.aload_n 0, 1) := by decide +kernel
theorem dX3_init_5 : decode cX3_init 5 = .ok (.bipush 7, 2) := by decide +kernel
theorem dX3_init_7 : decode cX3_init 7 = .ok (.newarray .int, 2) := by decide +kernel
theorem dX3_init_9 : decode cX3_init 9 = .ok (.putfield 9, 3) := by decide +kernel
theorem dX3_init_12 : decode cX3_init 12 = .ok (.aload_n 0, 1) := by decide +kernel
theorem dX3_init_13 : decode cX3_init 13 = .ok (.bipush 7, 2) := by decide +kernel
theorem dX3_init_15 : decode cX3_init 15 = .ok (.newarray .int, 2) := by decide +kernel
theorem dX3_init_17 : decode cX3_init 17 = .ok (.putfield 15, 3) := by decide +kernel
theorem dX3_init_20 : decode cX3_init 20 = .ok (.aload_n 0, 1) := by decide +kernel
theorem dX3_init_21 : decode cX3_init 21 = .ok (.bipush 7, 2) := by decide +kernel
theorem dX3_init_23 : decode cX3_init 23 = .ok (.newarray .int, 2) := by decide +kernel
theorem dX3_init_25 : decode cX3_init 25 = .ok (.putfield 18, 3) := by decide +kernel
theorem dX3_init_28 : decode cX3_init 28 = .ok (.aload_n 0, 1) := by decide +kernel
theorem dX3_init_29 : decode cX3_init 29 = .ok (.bipush 7, 2) := by decide +kernel
theorem dX3_init_31 : decode cX3_init 31 = .ok (.newarray .int, 2) := by decide +kernel
theorem dX3_init_33 : decode cX3_init 33 = .ok (.putfield 21, 3) := by decide +kernel
theorem dX3_init_36 : decode cX3_init 36 = .ok (.return_, 1) := by decide +kernel
theorem dX3_copyFrom_0 : decode cX3_copyFrom 0 = .ok (.aload_n 1, 1) := by decide +kernel
theorem dX3_copyFrom_1 : decode cX3_copyFrom 1 = .ok (.getfield 9, 3) := by decide +kernel
theorem dX3_copyFrom_4 : decode cX3_copyFrom 4 = .ok (.iconst 0, 1) := by decide +kernel
theorem dX3_copyFrom_5 : decode cX3_copyFrom 5 = .ok (.aload_n 0, 1) := by decide +kernel
theorem dX3_copyFrom_6 : decode cX3_copyFrom 6 = .ok (.getfield 9, 3) := by decide +kernel
theorem dX3_copyFrom_9 : decode cX3_copyFrom 9 = .ok (.iconst 0, 1) := by decide +kernel
theorem dX3_copyFrom_10 : decode cX3_copyFrom 10 = .ok (.bipush 7, 2) := by decide +kernel
theorem dX3_copyFrom_12 : decode cX3_copyFrom 12 = .ok (.invokestatic 24, 3) := by decide +kernel
theorem dX3_copyFrom_15 : decode cX3_copyFrom 15 = .ok (.aload_n 1, 1) := by decide +kernel
theorem dX3_copyFrom_16 : decode cX3_copyFrom 16 = .ok (.getfield 15, 3) := by decide +kernel
theorem dX3_copyFrom_19 : decode cX3_copyFrom 19 = .ok (.iconst 0, 1) := by decide +kernel
theorem dX3_copyFrom_20 : decode cX3_copyFrom 20 = .ok (.aload_n 0, 1) := by decide +kernel
theorem dX3_copyFrom_21 : decode cX3_copyFrom 21 = .ok (.getfield 15, 3) := by decide +kernel
theorem dX3_copyFrom_24 : decode cX3_copyFrom 24 = .ok (.iconst 0, 1) := by decide +kernel
theorem dX3_copyFrom_25 : decode cX3_copyFrom 25 = .ok (.bipush 7, 2) := by decide +kernel
theorem dX3_copyFrom_27 : decode cX3_copyFrom 27 = .ok (.invokestatic 24, 3) := by decide +kernel
theorem dX3_copyFrom_30 : decode cX3_copyFrom 30 = .ok (.aload_n 1, 1) := by decide +kernel
theorem dX3_copyFrom_31 : decode cX3_copyFrom 31 = .ok (.getfield 18, 3) := by decide +kernel
theorem dX3_copyFrom_34 : decode cX3_copyFrom 34 = .ok (.iconst 0, 1) := by decide +kernel
theorem dX3_copyFrom_35 : decode cX3_copyFrom 35 = .ok (.aload_n 0, 1) := by decide +kernel
theorem dX3_copyFrom_36 : decode cX3_copyFrom 36 = .ok (.getfield 18, 3) := by decide +kernel
theorem dX3_copyFrom_39 : decode cX3_copyFrom 39 = .ok (.iconst 0, 1) := by decide +kernel
theorem dX3_copyFrom_40 : decode cX3_copyFrom 40 = .ok (.bipush 7, 2) := by decide +kernel
theorem dX3_copyFrom_42 : decode cX3_copyFrom 42 = .ok (.invokestatic 24, 3) := by decide +kernel
theorem dX3_copyFrom_45 : decode cX3_copyFrom 45 = .ok (.aload_n 1, 1) := by decide +kernel
theorem dX3_copyFrom_46 : decode cX3_copyFrom 46 = .ok (.getfield 21, 3) := by decide +kernel
theorem dX3_copyFrom_49 : decode cX3_copyFrom 49 = .ok (.iconst 0, 1) := by decide +kernel
theorem dX3_copyFrom_50 : decode cX3_copyFrom 50 = .ok (.aload_n 0, 1) := by decide +kernel
theorem dX3_copyFrom_51 : decode cX3_copyFrom 51 = .ok (.getfield 21, 3) := by decide +kernel
theorem dX3_copyFrom_54 : decode cX3_copyFrom 54 = .ok (.iconst 0, 1) := by decide +kernel
theorem dX3_copyFrom_55 : decode cX3_copyFrom 55 = .ok (.bipush 7, 2) := by decide +kernel
theorem dX3_copyFrom_57 : decode cX3_copyFrom 57 = .ok (.invokestatic 24, 3) := by decide +kernel
theorem dX3_copyFrom_60 : decode cX3_copyFrom 60 = .ok (.aload_n 0, 1) := by decide +kernel
theorem dX3_copyFrom_61 : decode cX3_copyFrom 61 = .ok (.aload_n 1, 1) := by decide +kernel
theorem dX3_copyFrom_62 : decode cX3_copyFrom 62 = .ok (.getfield 30, 3) := by decide +kernel
theorem dX3_copyFrom_65 : decode cX3_copyFrom 65 = .ok (.putfield 30, 3) := by decide +kernel
theorem dX3_copyFrom_68 : decode cX3_copyFrom 68 = .ok (.aload_n 0, 1) := by decide +kernel
theorem dX3_copyFrom_69 : decode cX3_copyFrom 69 = .ok (.aload_n 1, 1) := by decide +kernel
theorem dX3_copyFrom_70 : decode cX3_copyFrom 70 = .ok (.getfield 34, 3) := by decide +kernel
theorem dX3_copyFrom_73 : decode cX3_copyFrom 73 = .ok (.putfield 34, 3) := by decide +kernel
theorem dX3_copyFrom_76 : decode cX3_copyFrom 76 = .ok (.aload_n 0, 1) := by decide +kernel
theorem dX3_copyFrom_77 : decode cX3_copyFrom 77 = .ok (.aload_n 1, 1) := by decide +kernel
theorem dX3_copyFrom_78 : decode cX3_copyFrom 78 = .ok (.getfield 37, 3) := by decide +kernel
theorem dX3_copyFrom_81 : decode cX3_copyFrom 81 = .ok (.putfield 37, 3) := by decide +kernel
theorem dX3_copyFrom_84 : decode cX3_copyFrom 84 = .ok (.aload_n 0, 1) := by decide +kernel
theorem dX3_copyFrom_85 : decode cX3_copyFrom 85 = .ok (.aload_n 1, 1) := by decide +kernel
theorem dX3_copyFrom_86 : decode cX3_copyFrom 86 = .ok (.getfield 40, 3) := by decide +kernel
theorem dX3_copyFrom_89 : decode cX3_copyFrom 89 = .ok (.putfield 40, 3) := by decide +kernel
theorem dX3_copyFrom_92 : decode cX3_copyFrom 92 = .ok (.aload_n 0, 1) := by decide +kernel
theorem dX3_copyFrom_93 : decode cX3_copyFrom 93 = .ok (.aload_n 1, 1) := by decide +kernel
theorem dX3_copyFrom_94 : decode cX3_copyFrom 94 = .ok (.getfield 43, 3) := by decide +kernel
theorem dX3_copyFrom_97 : decode cX3_copyFrom 97 = .ok (.putfield 43, 3) := by decide +kernel
theorem dX3_copyFrom_100 : decode cX3_copyFrom 100 = .ok (.return_, 1) := by decide +kernel
theorem dX3_isNone_0 : decode cX3_isNone 0 = .ok (.aload_n 0, 1) := by decide +kernel
theorem dX3_isNone_1 : decode cX3_isNone 1 = .ok (.getfield 30, 3) := by decide +kernel
theorem dX3_isNone_4 : decode cX3_isNone 4 = .ok (.ifCond .ne 7, 3) := by decide +kernel
theorem dX3_isNone_7 : decode cX3_isNone 7 = .ok (.iconst 1, 1) := by decide +kernel
theorem dX3_isNone_8 : decode cX3_isNone 8 = .ok (.goto 4, 3) := by decide +kernel
theorem dX3_isNone_11 : decode cX3_isNone 11 = .ok (.iconst 0, 1) := by decide +kernel
theorem dX3_isNone_12 : decode cX3_isNone 12 = .ok (.ireturn, 1) := by decide +kernel
theorem dX3_has_0 : decode cX3_has 0 = .ok (.iload_n 1, 1) := by decide +kernel
theorem dX3_has_1 : decode cX3_has 1 = .ok (.ifCond .lt 15, 3) := by decide +kernel
theorem dX3_has_4 : decode cX3_has 4 = .ok (.iload_n 1, 1) := by decide +kernel
theorem dX3_has_5 : decode cX3_has 5 = .ok (.aload_n 0, 1) := by decide +kernel
theorem dX3_has_6 : decode cX3_has 6 = .ok (.getfield 30, 3) := by decide +kernel
theorem dX3_has_9 : decode cX3_has 9 = .ok (.if_icmp .ge 7, 3) := by decide +kernel
theorem dX3_has_12 : decode cX3_has 12 = .ok (.iconst 1, 1) := by decide +kernel
theorem dX3_has_13 : decode cX3_has 13 = .ok (.goto 4, 3) := by decide +kernel
theorem dX3_has_16 : decode cX3_has 16 = .ok (.iconst 0, 1) := by decide +kernel
theorem dX3_has_17 : decode cX3_has 17 = .ok (.ireturn, 1) := by decide +kernel
set_option maxRecDepth 20000 in
theorem ggX3_left_J6_bitCount_0f7a4 : GoodIn wsX3_left wsJ6_bitCount_0f7a4 := goodIn_r _ [6, 7, 8, 9] (by decide +kernel) (by decide +kernel)
set_option maxRecDepth 20000 in
theorem gX3_left_J6_bitCount_0f7a4 : GoodIn wsX3_left (va_wsS RX3 46 yJ6_bitCount_0f7a4 wsJ6_bitCount_0f7a4) := goodIn_app (goodIn_of _ (by decide +kernel)) ggX3_left_J6_bitCount_0f7a4
theorem dX3_left_0 : decode cX3_left 0 = .ok (.aload_n 0, 1) := by decide +kernel
theorem dX3_left_1 : decode cX3_left 1 = .ok (.getfield 30, 3) := by decide +kernel
theorem dX3_left_4 : decode cX3_left 4 = .ok (.aload_n 0, 1) := by decide +kernel
theorem dX3_left_5 : decode cX3_left 5 = .ok (.getfield 34, 3) := by decide +kernel
theorem dX3_left_8 : decode cX3_left 8 = .ok (.invokestatic 46, 3) := by decide +kernel
theorem dX3_left_11 : decode cX3_left 11 = .ok (.isub, 1) := by decide +kernel
theorem dX3_left_12 : decode cX3_left 12 = .ok (.ireturn, 1) := by decide +kernel
theorem dX3_lookAt_0 : decode cX3_lookAt 0 = .ok (.aload_n 0, 1) := by decide +kernel
theorem dX3_lookAt_1 : decode cX3_lookAt 1 = .ok (.getfield 18, 3) := by decide +kernel
theorem dX3_lookAt_4 : decode cX3_lookAt 4 = .ok (.iload_n 1, 1) := by decide +kernel
theorem dX3_lookAt_5 : decode cX3_lookAt 5 = .ok (.bipush 20, 2) := by decide +kernel
theorem dX3_lookAt_7 : decode cX3_lookAt 7 = .ok (.aload_n 0, 1) := by decide +kernel
theorem dX3_lookAt_8 : decode cX3_lookAt 8 = .ok (.getfield 18, 3) := by decide +kernel
theorem dX3_lookAt_11 : decode cX3_lookAt 11 = .ok (.iload_n 1, 1) := by decide +kernel
theorem dX3_lookAt_12 : decode cX3_lookAt 12 = .ok (.iaload, 1) := by decide +kernel
theorem dX3_lookAt_13 : decode cX3_lookAt 13 = .ok (.iconst 1, 1) := by decide +kernel
theorem dX3_lookAt_14 : decode cX3_lookAt 14 = .ok (.iadd, 1) := by decide +kernel
theorem dX3_lookAt_15 : decode cX3_lookAt 15 = .ok (.invokestatic 52, 3) := by decide +kernel
theorem dX3_lookAt_18 : decode cX3_lookAt 18 = .ok (.iastore, 1) := by decide +kernel
theorem dX3_lookAt_19 : decode cX3_lookAt 19 = .ok (.aload_n 0, 1) := by decide +kernel
theorem dX3_lookAt_20 : decode cX3_lookAt 20 = .ok (.getfield 21, 3) := by decide +kernel
theorem dX3_lookAt_23 : decode cX3_lookAt 23 = .ok (.iload_n 1, 1) := by decide +kernel
theorem dX3_lookAt_24 : decode cX3_lookAt 24 = .ok (.iload_n 2, 1) := by decide +kernel
theorem dX3_lookAt_25 : decode cX3_lookAt 25 = .ok (.ineg, 1) := by decide +kernel
theorem dX3_lookAt_26 : decode cX3_lookAt 26 = .ok (.iastore, 1) := by decide +kernel
theorem dX3_lookAt_27 : decode cX3_lookAt 27 = .ok (.return_, 1) := by decide +kernel
set_option maxRecDepth 20000 in
theorem ggX3_passDay_X3_sinceBehind : GoodIn wsX3_passDay wsX3_sinceBehind := goodIn_r _ [8, 9, 3, 10, 11, 12, 13, 14, 15, 16, 17, 18, 19, 20, 21, 22, 23, 24, 25] (by decide +kernel) (by decide +kernel)
set_option maxRecDepth 20000 in
theorem gX3_passDay_X3_sinceBehind : GoodIn wsX3_passDay (wsV RX3 58 RX3 yX3_sinceBehind wsX3_sinceBehind) := goodIn_app (goodIn_of _ (by decide +kernel)) ggX3_passDay_X3_sinceBehind
theorem dX3_passDay_0 : decode cX3_passDay 0 = .ok (.aload_n 0, 1) := by decide +kernel
theorem dX3_passDay_1 : decode cX3_passDay 1 = .ok (.dup, 1) := by decide +kernel
theorem dX3_passDay_2 : decode cX3_passDay 2 = .ok (.getfield 40, 3) := by decide +kernel
theorem dX3_passDay_5 : decode cX3_passDay 5 = .ok (.iconst 1, 1) := by decide +kernel
theorem dX3_passDay_6 : decode cX3_passDay 6 = .ok (.iadd, 1) := by decide +kernel
theorem dX3_passDay_7 : decode cX3_passDay 7 = .ok (.putfield 40, 3) := by decide +kernel
theorem dX3_passDay_10 : decode cX3_passDay 10 = .ok (.iconst 0, 1) := by decide +kernel
theorem dX3_passDay_11 : decode cX3_passDay 11 = .ok (.istore_n 1, 1) := by decide +kernel
theorem dX3_passDay_12 : decode cX3_passDay 12 = .ok (.iload_n 1, 1) := by decide +kernel
theorem dX3_passDay_13 : decode cX3_passDay 13 = .ok (.aload_n 0, 1) := by decide +kernel
theorem dX3_passDay_14 : decode cX3_passDay 14 = .ok (.getfield 30, 3) := by decide +kernel
theorem dX3_passDay_17 : decode cX3_passDay 17 = .ok (.if_icmp .ge 21, 3) := by decide +kernel
theorem dX3_passDay_20 : decode cX3_passDay 20 = .ok (.aload_n 0, 1) := by decide +kernel
theorem dX3_passDay_21 : decode cX3_passDay 21 = .ok (.getfield 21, 3) := by decide +kernel
theorem dX3_passDay_24 : decode cX3_passDay 24 = .ok (.iload_n 1, 1) := by decide +kernel
theorem dX3_passDay_25 : decode cX3_passDay 25 = .ok (.aload_n 0, 1) := by decide +kernel
theorem dX3_passDay_26 : decode cX3_passDay 26 = .ok (.iload_n 1, 1) := by decide +kernel
theorem dX3_passDay_27 : decode cX3_passDay 27 = .ok (.iconst 1, 1) := by decide +kernel
theorem dX3_passDay_28 : decode cX3_passDay 28 = .ok (.invokevirtual 58, 3) := by decide +kernel
theorem dX3_passDay_31 : decode cX3_passDay 31 = .ok (.iastore, 1) := by decide +kernel
theorem dX3_passDay_32 : decode cX3_passDay 32 = .ok (.iinc 1 1, 3) := by decide +kernel
theorem dX3_passDay_35 : decode cX3_passDay 35 = .ok (.goto (-23), 3) := by decide +kernel
theorem dX3_passDay_38 : decode cX3_passDay 38 = .ok (.return_, 1) := by decide +kernel
theorem dX3_haveAway_0 : decode cX3_haveAway 0 = .ok (.aload_n 0, 1) := by decide +kernel
theorem dX3_haveAway_1 : decode cX3_haveAway 1 = .ok (.dup, 1) := by decide +kernel
theorem dX3_haveAway_2 : decode cX3_haveAway 2 = .ok (.getfield 34, 3) := by decide +kernel
theorem dX3_haveAway_5 : decode cX3_haveAway 5 = .ok (.iconst 1, 1) := by decide +kernel
theorem dX3_haveAway_6 : decode cX3_haveAway 6 = .ok (.iload_n 1, 1) := by decide +kernel
theorem dX3_haveAway_7 : decode cX3_haveAway 7 = .ok (.ishl, 1) := by decide +kernel
theorem dX3_haveAway_8 : decode cX3_haveAway 8 = .ok (.ior, 1) := by decide +kernel
theorem dX3_haveAway_9 : decode cX3_haveAway 9 = .ok (.putfield 34, 3) := by decide +kernel
theorem dX3_haveAway_12 : decode cX3_haveAway 12 = .ok (.aload_n 0, 1) := by decide +kernel
theorem dX3_haveAway_13 : decode cX3_haveAway 13 = .ok (.iconst 0, 1) := by decide +kernel
theorem dX3_haveAway_14 : decode cX3_haveAway 14 = .ok (.aload_n 0, 1) := by decide +kernel
theorem dX3_haveAway_15 : decode cX3_haveAway 15 = .ok (.getfield 37, 3) := by decide +kernel
theorem dX3_haveAway_18 : decode cX3_haveAway 18 = .ok (.aload_n 0, 1) := by decide +kernel
theorem dX3_haveAway_19 : decode cX3_haveAway 19 = .ok (.getfield 15, 3) := by decide +kernel
theorem dX3_haveAway_22 : decode cX3_haveAway 22 = .ok (.iload_n 1, 1) := by decide +kernel
theorem dX3_haveAway_23 : decode cX3_haveAway 23 = .ok (.iaload, 1) := by decide +kernel
theorem dX3_haveAway_24 : decode cX3_haveAway 24 = .ok (.isub, 1) := by decide +kernel
theorem dX3_haveAway_25 : decode cX3_haveAway 25 = .ok (.invokestatic 61, 3) := by decide +kernel
theorem dX3_haveAway_28 : decode cX3_haveAway 28 = .ok (.putfield 37, 3) := by decide +kernel
theorem dX3_haveAway_31 : decode cX3_haveAway 31 = .ok (.return_, 1) := by decide +kernel
set_option maxRecDepth 20000 in
theorem ggX3_sinceBehind_X8_isIn : GoodIn wsX3_sinceBehind wsX8_isIn := goodIn_r _ [9] (by decide +kernel) (by decide +kernel)
set_option maxRecDepth 20000 in
theorem gX3_sinceBehind_X8_isIn_n64 : GoodIn wsX3_sinceBehind (wsX8_isIn) := ggX3_sinceBehind_X8_isIn
theorem dX3_sinceBehind_0 : decode cX3_sinceBehind 0 = .ok (.aload_n 0, 1) := by decide +kernel
theorem dX3_sinceBehind_1 : decode cX3_sinceBehind 1 = .ok (.getfield 34, 3) := by decide +kernel
theorem dX3_sinceBehind_4 : decode cX3_sinceBehind 4 = .ok (.iload_n 1, 1) := by decide +kernel
theorem dX3_sinceBehind_5 : decode cX3_sinceBehind 5 = .ok (.invokestatic 64, 3) := by decide +kernel
theorem dX3_sinceBehind_8 : decode cX3_sinceBehind 8 = .ok (.ifCond .eq 12, 3) := by decide +kernel
theorem dX3_sinceBehind_11 : decode cX3_sinceBehind 11 = .ok (.aload_n 0, 1) := by decide +kernel
theorem dX3_sinceBehind_12 : decode cX3_sinceBehind 12 = .ok (.getfield 21, 3) := by decide +kernel
theorem dX3_sinceBehind_15 : decode cX3_sinceBehind 15 = .ok (.iload_n 1, 1) := by decide +kernel
theorem dX3_sinceBehind_16 : decode cX3_sinceBehind 16 = .ok (.iaload, 1) := by decide +kernel
theorem dX3_sinceBehind_17 : decode cX3_sinceBehind 17 = .ok (.goto 16, 3) := by decide +kernel
theorem dX3_sinceBehind_20 : decode cX3_sinceBehind 20 = .ok (.bipush 20, 2) := by decide +kernel
theorem dX3_sinceBehind_22 : decode cX3_sinceBehind 22 = .ok (.aload_n 0, 1) := by decide +kernel
theorem dX3_sinceBehind_23 : decode cX3_sinceBehind 23 = .ok (.getfield 21, 3) := by decide +kernel
theorem dX3_sinceBehind_26 : decode cX3_sinceBehind 26 = .ok (.iload_n 1, 1) := by decide +kernel
theorem dX3_sinceBehind_27 : decode cX3_sinceBehind 27 = .ok (.iaload, 1) := by decide +kernel
theorem dX3_sinceBehind_28 : decode cX3_sinceBehind 28 = .ok (.iload_n 2, 1) := by decide +kernel
theorem dX3_sinceBehind_29 : decode cX3_sinceBehind 29 = .ok (.iadd, 1) := by decide +kernel
theorem dX3_sinceBehind_30 : decode cX3_sinceBehind 30 = .ok (.invokestatic 52, 3) := by decide +kernel
theorem dX3_sinceBehind_33 : decode cX3_sinceBehind 33 = .ok (.ireturn, 1) := by decide +kernel
set_option maxRecDepth 20000 in
theorem ggX3_missedBehind_X3_sinceBehind : GoodIn wsX3_missedBehind wsX3_sinceBehind := goodIn_r _ [7, 8, 9, 10, 11, 12, 13, 14, 15, 16, 22, 23, 24, 25, 26, 27, 28, 29, 30] (by decide +kernel) (by decide +kernel)
set_option maxRecDepth 20000 in
theorem gX3_missedBehind_X3_sinceBehind : GoodIn wsX3_missedBehind (wsV RX3 58 RX3 yX3_sinceBehind wsX3_sinceBehind) := goodIn_app (goodIn_of _ (by decide +kernel)) ggX3_missedBehind_X3_sinceBehind
set_option maxRecDepth 20000 in
theorem ggX3_missedBehind_X8_missedBy : GoodIn wsX3_missedBehind wsX8_missedBy := goodIn_r _ [18, 19, 20, 12, 21] (by decide +kernel) (by decide +kernel)
set_option maxRecDepth 20000 in
theorem gX3_missedBehind_X8_missedBy_n68 : GoodIn wsX3_missedBehind (wsX8_missedBy) := ggX3_missedBehind_X8_missedBy
theorem dX3_missedBehind_0 : decode cX3_missedBehind 0 = .ok (.aload_n 0, 1) := by decide +kernel
theorem dX3_missedBehind_1 : decode cX3_missedBehind 1 = .ok (.getfield 9, 3) := by decide +kernel
theorem dX3_missedBehind_4 : decode cX3_missedBehind 4 = .ok (.iload_n 1, 1) := by decide +kernel
theorem dX3_missedBehind_5 : decode cX3_missedBehind 5 = .ok (.iaload, 1) := by decide +kernel
theorem dX3_missedBehind_6 : decode cX3_missedBehind 6 = .ok (.aload_n 0, 1) := by decide +kernel
theorem dX3_missedBehind_7 : decode cX3_missedBehind 7 = .ok (.getfield 18, 3) := by decide +kernel
theorem dX3_missedBehind_10 : decode cX3_missedBehind 10 = .ok (.iload_n 1, 1) := by decide +kernel
theorem dX3_missedBehind_11 : decode cX3_missedBehind 11 = .ok (.iaload, 1) := by decide +kernel
theorem dX3_missedBehind_12 : decode cX3_missedBehind 12 = .ok (.aload_n 0, 1) := by decide +kernel
theorem dX3_missedBehind_13 : decode cX3_missedBehind 13 = .ok (.iload_n 1, 1) := by decide +kernel
theorem dX3_missedBehind_14 : decode cX3_missedBehind 14 = .ok (.iload_n 2, 1) := by decide +kernel
theorem dX3_missedBehind_15 : decode cX3_missedBehind 15 = .ok (.invokevirtual 58, 3) := by decide +kernel
theorem dX3_missedBehind_18 : decode cX3_missedBehind 18 = .ok (.invokestatic 68, 3) := by decide +kernel
theorem dX3_missedBehind_21 : decode cX3_missedBehind 21 = .ok (.ireturn, 1) := by decide +kernel
set_option maxRecDepth 20000 in
theorem ggX3_wouldTake_X8_isIn : GoodIn wsX3_wouldTake wsX8_isIn := goodIn_r _ [6] (by decide +kernel) (by decide +kernel)
set_option maxRecDepth 20000 in
theorem gX3_wouldTake_X8_isIn_n64 : GoodIn wsX3_wouldTake (wsX8_isIn) := ggX3_wouldTake_X8_isIn
set_option maxRecDepth 20000 in
theorem ggX3_wouldTake_X3_missedBehind : GoodIn wsX3_wouldTake wsX3_missedBehind := goodIn_r _ [11, 12, 13, 14, 15, 16, 10, 17, 3, 18, 19, 20, 21, 22, 4, 5, 6, 23, 24, 25, 26, 27, 28, 29, 30, 31, 32, 33, 34, 35, 36] (by decide +kernel) (by decide +kernel)
set_option maxRecDepth 20000 in
theorem gX3_wouldTake_X3_missedBehind : GoodIn wsX3_wouldTake (wsV RX3 72 RX3 yX3_missedBehind wsX3_missedBehind) := goodIn_app (goodIn_of _ (by decide +kernel)) ggX3_wouldTake_X3_missedBehind
theorem dX3_wouldTake_0 : decode cX3_wouldTake 0 = .ok (.aload_n 0, 1) := by decide +kernel
theorem dX3_wouldTake_1 : decode cX3_wouldTake 1 = .ok (.getfield 37, 3) := by decide +kernel
theorem dX3_wouldTake_4 : decode cX3_wouldTake 4 = .ok (.ifCond .gt 5, 3) := by decide +kernel
theorem dX3_wouldTake_7 : decode cX3_wouldTake 7 = .ok (.iconst (-1), 1) := by decide +kernel
theorem dX3_wouldTake_8 : decode cX3_wouldTake 8 = .ok (.ireturn, 1) := by decide +kernel
theorem dX3_wouldTake_9 : decode cX3_wouldTake 9 = .ok (.iconst (-1), 1) := by decide +kernel
theorem dX3_wouldTake_10 : decode cX3_wouldTake 10 = .ok (.istore_n 2, 1) := by decide +kernel
theorem dX3_wouldTake_11 : decode cX3_wouldTake 11 = .ok (.iconst 0, 1) := by decide +kernel
theorem dX3_wouldTake_12 : decode cX3_wouldTake 12 = .ok (.istore_n 3, 1) := by decide +kernel
theorem dX3_wouldTake_13 : decode cX3_wouldTake 13 = .ok (.iconst 0, 1) := by decide +kernel
theorem dX3_wouldTake_14 : decode cX3_wouldTake 14 = .ok (.istore 4, 2) := by decide +kernel
theorem dX3_wouldTake_16 : decode cX3_wouldTake 16 = .ok (.iload 4, 2) := by decide +kernel
theorem dX3_wouldTake_18 : decode cX3_wouldTake 18 = .ok (.aload_n 0, 1) := by decide +kernel
theorem dX3_wouldTake_19 : decode cX3_wouldTake 19 = .ok (.getfield 30, 3) := by decide +kernel
theorem dX3_wouldTake_22 : decode cX3_wouldTake 22 = .ok (.if_icmp .ge 50, 3) := by decide +kernel
theorem dX3_wouldTake_25 : decode cX3_wouldTake 25 = .ok (.aload_n 0, 1) := by decide +kernel
theorem dX3_wouldTake_26 : decode cX3_wouldTake 26 = .ok (.getfield 34, 3) := by decide +kernel
theorem dX3_wouldTake_29 : decode cX3_wouldTake 29 = .ok (.iload 4, 2) := by decide +kernel
theorem dX3_wouldTake_31 : decode cX3_wouldTake 31 = .ok (.invokestatic 64, 3) := by decide +kernel
theorem dX3_wouldTake_34 : decode cX3_wouldTake 34 = .ok (.ifCond .eq 6, 3) := by decide +kernel
theorem dX3_wouldTake_37 : decode cX3_wouldTake 37 = .ok (.goto 29, 3) := by decide +kernel
theorem dX3_wouldTake_40 : decode cX3_wouldTake 40 = .ok (.aload_n 0, 1) := by decide +kernel
theorem dX3_wouldTake_41 : decode cX3_wouldTake 41 = .ok (.iload 4, 2) := by decide +kernel
theorem dX3_wouldTake_43 : decode cX3_wouldTake 43 = .ok (.iload_n 1, 1) := by decide +kernel
theorem dX3_wouldTake_44 : decode cX3_wouldTake 44 = .ok (.invokevirtual 72, 3) := by decide +kernel
theorem dX3_wouldTake_47 : decode cX3_wouldTake 47 = .ok (.istore 5, 2) := by decide +kernel
theorem dX3_wouldTake_49 : decode cX3_wouldTake 49 = .ok (.iload_n 2, 1) := by decide +kernel
theorem dX3_wouldTake_50 : decode cX3_wouldTake 50 = .ok (.iconst (-1), 1) := by decide +kernel
theorem dX3_wouldTake_51 : decode cX3_wouldTake 51 = .ok (.if_icmp .eq 9, 3) := by decide +kernel
theorem dX3_wouldTake_54 : decode cX3_wouldTake 54 = .ok (.iload 5, 2) := by decide +kernel
theorem dX3_wouldTake_56 : decode cX3_wouldTake 56 = .ok (.iload_n 3, 1) := by decide +kernel
theorem dX3_wouldTake_57 : decode cX3_wouldTake 57 = .ok (.if_icmp .ge 9, 3) := by decide +kernel
theorem dX3_wouldTake_60 : decode cX3_wouldTake 60 = .ok (.iload 4, 2) := by decide +kernel
theorem dX3_wouldTake_62 : decode cX3_wouldTake 62 = .ok (.istore_n 2, 1) := by decide +kernel
theorem dX3_wouldTake_63 : decode cX3_wouldTake 63 = .ok (.iload 5, 2) := by decide +kernel
theorem dX3_wouldTake_65 : decode cX3_wouldTake 65 = .ok (.istore_n 3, 1) := by decide +kernel
theorem dX3_wouldTake_66 : decode cX3_wouldTake 66 = .ok (.iinc 4 1, 3) := by decide +kernel
theorem dX3_wouldTake_69 : decode cX3_wouldTake 69 = .ok (.goto (-53), 3) := by decide +kernel
theorem dX3_wouldTake_72 : decode cX3_wouldTake 72 = .ok (.iload_n 2, 1) := by decide +kernel
theorem dX3_wouldTake_73 : decode cX3_wouldTake 73 = .ok (.ireturn, 1) := by decide +kernel
set_option maxRecDepth 20000 in
theorem ggX3_worthOf_X8_isIn : GoodIn wsX3_worthOf wsX8_isIn := goodIn_r _ [5] (by decide +kernel) (by decide +kernel)
set_option maxRecDepth 20000 in
theorem gX3_worthOf_X8_isIn_n64 : GoodIn wsX3_worthOf (wsX8_isIn) := ggX3_worthOf_X8_isIn
theorem dX3_worthOf_0 : decode cX3_worthOf 0 = .ok (.iconst 0, 1) := by decide +kernel
theorem dX3_worthOf_1 : decode cX3_worthOf 1 = .ok (.istore_n 2, 1) := by decide +kernel
theorem dX3_worthOf_2 : decode cX3_worthOf 2 = .ok (.iconst 0, 1) := by decide +kernel
theorem dX3_worthOf_3 : decode cX3_worthOf 3 = .ok (.istore_n 3, 1) := by decide +kernel
theorem dX3_worthOf_4 : decode cX3_worthOf 4 = .ok (.iload_n 3, 1) := by decide +kernel
theorem dX3_worthOf_5 : decode cX3_worthOf 5 = .ok (.aload_n 0, 1) := by decide +kernel
theorem dX3_worthOf_6 : decode cX3_worthOf 6 = .ok (.getfield 30, 3) := by decide +kernel
theorem dX3_worthOf_9 : decode cX3_worthOf 9 = .ok (.if_icmp .ge 30, 3) := by decide +kernel
theorem dX3_worthOf_12 : decode cX3_worthOf 12 = .ok (.iload_n 2, 1) := by decide +kernel
theorem dX3_worthOf_13 : decode cX3_worthOf 13 = .ok (.iload_n 1, 1) := by decide +kernel
theorem dX3_worthOf_14 : decode cX3_worthOf 14 = .ok (.iload_n 3, 1) := by decide +kernel
theorem dX3_worthOf_15 : decode cX3_worthOf 15 = .ok (.invokestatic 64, 3) := by decide +kernel
theorem dX3_worthOf_18 : decode cX3_worthOf 18 = .ok (.ifCond .eq 12, 3) := by decide +kernel
theorem dX3_worthOf_21 : decode cX3_worthOf 21 = .ok (.aload_n 0, 1) := by decide +kernel
theorem dX3_worthOf_22 : decode cX3_worthOf 22 = .ok (.getfield 15, 3) := by decide +kernel
theorem dX3_worthOf_25 : decode cX3_worthOf 25 = .ok (.iload_n 3, 1) := by decide +kernel
theorem dX3_worthOf_26 : decode cX3_worthOf 26 = .ok (.iaload, 1) := by decide +kernel
theorem dX3_worthOf_27 : decode cX3_worthOf 27 = .ok (.goto 4, 3) := by decide +kernel
theorem dX3_worthOf_30 : decode cX3_worthOf 30 = .ok (.iconst 0, 1) := by decide +kernel
theorem dX3_worthOf_31 : decode cX3_worthOf 31 = .ok (.iadd, 1) := by decide +kernel
theorem dX3_worthOf_32 : decode cX3_worthOf 32 = .ok (.istore_n 2, 1) := by decide +kernel
theorem dX3_worthOf_33 : decode cX3_worthOf 33 = .ok (.iinc 3 1, 3) := by decide +kernel
theorem dX3_worthOf_36 : decode cX3_worthOf 36 = .ok (.goto (-32), 3) := by decide +kernel
theorem dX3_worthOf_39 : decode cX3_worthOf 39 = .ok (.iload_n 2, 1) := by decide +kernel
theorem dX3_worthOf_40 : decode cX3_worthOf 40 = .ok (.ireturn, 1) := by decide +kernel
set_option maxRecDepth 20000 in
theorem ggX3_missedOf_X8_isIn : GoodIn wsX3_missedOf wsX8_isIn := goodIn_r _ [4] (by decide +kernel) (by decide +kernel)
set_option maxRecDepth 20000 in
theorem gX3_missedOf_X8_isIn_n64 : GoodIn wsX3_missedOf (wsX8_isIn) := ggX3_missedOf_X8_isIn
set_option maxRecDepth 20000 in
theorem ggX3_missedOf_X3_missedBehind : GoodIn wsX3_missedOf wsX3_missedBehind := goodIn_r _ [9, 10, 11, 12, 13, 14, 8, 15, 16, 17, 18, 19, 20, 21, 2, 3, 4, 22, 23, 24, 25, 26, 27, 28, 29, 30, 31, 32, 33, 34, 35] (by decide +kernel) (by decide +kernel)
set_option maxRecDepth 20000 in
theorem gX3_missedOf_X3_missedBehind : GoodIn wsX3_missedOf (wsV RX3 72 RX3 yX3_missedBehind wsX3_missedBehind) := goodIn_app (goodIn_of _ (by decide +kernel)) ggX3_missedOf_X3_missedBehind
theorem dX3_missedOf_0 : decode cX3_missedOf 0 = .ok (.iconst 0, 1) := by decide +kernel
theorem dX3_missedOf_1 : decode cX3_missedOf 1 = .ok (.istore_n 3, 1) := by decide +kernel
theorem dX3_missedOf_2 : decode cX3_missedOf 2 = .ok (.iconst 0, 1) := by decide +kernel
theorem dX3_missedOf_3 : decode cX3_missedOf 3 = .ok (.istore 4, 2) := by decide +kernel
theorem dX3_missedOf_5 : decode cX3_missedOf 5 = .ok (.iload 4, 2) := by decide +kernel
theorem dX3_missedOf_7 : decode cX3_missedOf 7 = .ok (.aload_n 0, 1) := by decide +kernel
theorem dX3_missedOf_8 : decode cX3_missedOf 8 = .ok (.getfield 30, 3) := by decide +kernel
theorem dX3_missedOf_11 : decode cX3_missedOf 11 = .ok (.if_icmp .ge 32, 3) := by decide +kernel
theorem dX3_missedOf_14 : decode cX3_missedOf 14 = .ok (.iload_n 3, 1) := by decide +kernel
theorem dX3_missedOf_15 : decode cX3_missedOf 15 = .ok (.iload_n 1, 1) := by decide +kernel
theorem dX3_missedOf_16 : decode cX3_missedOf 16 = .ok (.iload 4, 2) := by decide +kernel
theorem dX3_missedOf_18 : decode cX3_missedOf 18 = .ok (.invokestatic 64, 3) := by decide +kernel
theorem dX3_missedOf_21 : decode cX3_missedOf 21 = .ok (.ifCond .eq 13, 3) := by decide +kernel
theorem dX3_missedOf_24 : decode cX3_missedOf 24 = .ok (.aload_n 0, 1) := by decide +kernel
theorem dX3_missedOf_25 : decode cX3_missedOf 25 = .ok (.iload 4, 2) := by decide +kernel
theorem dX3_missedOf_27 : decode cX3_missedOf 27 = .ok (.iload_n 2, 1) := by decide +kernel
theorem dX3_missedOf_28 : decode cX3_missedOf 28 = .ok (.invokevirtual 72, 3) := by decide +kernel
theorem dX3_missedOf_31 : decode cX3_missedOf 31 = .ok (.goto 4, 3) := by decide +kernel
theorem dX3_missedOf_34 : decode cX3_missedOf 34 = .ok (.iconst 0, 1) := by decide +kernel
theorem dX3_missedOf_35 : decode cX3_missedOf 35 = .ok (.iadd, 1) := by decide +kernel
theorem dX3_missedOf_36 : decode cX3_missedOf 36 = .ok (.istore_n 3, 1) := by decide +kernel
theorem dX3_missedOf_37 : decode cX3_missedOf 37 = .ok (.iinc 4 1, 3) := by decide +kernel
theorem dX3_missedOf_40 : decode cX3_missedOf 40 = .ok (.goto (-35), 3) := by decide +kernel
theorem dX3_missedOf_43 : decode cX3_missedOf 43 = .ok (.iload_n 3, 1) := by decide +kernel
theorem dX3_missedOf_44 : decode cX3_missedOf 44 = .ok (.ireturn, 1) := by decide +kernel
