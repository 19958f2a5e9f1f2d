theorem dX8_isSiegeAnswer_0 : decode cX8_isSiegeAnswer 0 = .ok (.iload_n 0, 1) := by decide +kernel
theorem dX8_isSiegeAnswer_1 : decode cX8_isSiegeAnswer 1 = .ok (.ifCond .eq 20, 3) := by decide +kernel
theorem dX8_isSiegeAnswer_4 : decode cX8_isSiegeAnswer 4 = .ok (.iload_n 0, 1) := by decide +kernel
theorem dX8_isSiegeAnswer_5 : decode cX8_isSiegeAnswer 5 = .ok (.iconst 1, 1) := by decide +kernel
theorem dX8_isSiegeAnswer_6 : decode cX8_isSiegeAnswer 6 = .ok (.if_icmp .eq 15, 3) := by decide +kernel
theorem dX8_isSiegeAnswer_9 : decode cX8_isSiegeAnswer 9 = .ok (.iload_n 0, 1) := by decide +kernel
theorem dX8_isSiegeAnswer_10 : decode cX8_isSiegeAnswer 10 = .ok (.bipush 10, 2) := by decide +kernel
theorem dX8_isSiegeAnswer_12 : decode cX8_isSiegeAnswer 12 = .ok (.if_icmp .lt 13, 3) := by decide +kernel
theorem dX8_isSiegeAnswer_15 : decode cX8_isSiegeAnswer 15 = .ok (.iload_n 0, 1) := by decide +kernel
theorem dX8_isSiegeAnswer_16 : decode cX8_isSiegeAnswer 16 = .ok (.bipush 14, 2) := by decide +kernel
theorem dX8_isSiegeAnswer_18 : decode cX8_isSiegeAnswer 18 = .ok (.if_icmp .ge 7, 3) := by decide +kernel
theorem dX8_isSiegeAnswer_21 : decode cX8_isSiegeAnswer 21 = .ok (.iconst 1, 1) := by decide +kernel
theorem dX8_isSiegeAnswer_22 : decode cX8_isSiegeAnswer 22 = .ok (.goto 4, 3) := by decide +kernel
theorem dX8_isSiegeAnswer_25 : decode cX8_isSiegeAnswer 25 = .ok (.iconst 0, 1) := by decide +kernel
theorem dX8_isSiegeAnswer_26 : decode cX8_isSiegeAnswer 26 = .ok (.ireturn, 1) := by decide +kernel
theorem dX8_isIn_0 : decode cX8_isIn 0 = .ok (.iload_n 0, 1) := by decide +kernel
theorem dX8_isIn_1 : decode cX8_isIn 1 = .ok (.iload_n 1, 1) := by decide +kernel
theorem dX8_isIn_2 : decode cX8_isIn 2 = .ok (.ishr, 1) := by decide +kernel
theorem dX8_isIn_3 : decode cX8_isIn 3 = .ok (.iconst 1, 1) := by decide +kernel
theorem dX8_isIn_4 : decode cX8_isIn 4 = .ok (.iand, 1) := by decide +kernel
theorem dX8_isIn_5 : decode cX8_isIn 5 = .ok (.iconst 1, 1) := by decide +kernel
theorem dX8_isIn_6 : decode cX8_isIn 6 = .ok (.if_icmp .ne 7, 3) := by decide +kernel
theorem dX8_isIn_9 : decode cX8_isIn 9 = .ok (.iconst 1, 1) := by decide +kernel
theorem dX8_isIn_10 : decode cX8_isIn 10 = .ok (.goto 4, 3) := by decide +kernel
theorem dX8_isIn_13 : decode cX8_isIn 13 = .ok (.iconst 0, 1) := by decide +kernel
theorem dX8_isIn_14 : decode cX8_isIn 14 = .ok (.ireturn, 1) := by decide +kernel
theorem dX8_isKind_0 : decode cX8_isKind 0 = .ok (.iload_n 1, 1) := by decide +kernel
theorem dX8_isKind_1 : decode cX8_isKind 1 = .ok (.ifCond .eq 18, 3) := by decide +kernel
theorem dX8_isKind_4 : decode cX8_isKind 4 = .ok (.iload_n 1, 1) := by decide +kernel
theorem dX8_isKind_5 : decode cX8_isKind 5 = .ok (.iload_n 0, 1) := by decide +kernel
theorem dX8_isKind_6 : decode cX8_isKind 6 = .ok (.if_icmp .eq 13, 3) := by decide +kernel
theorem dX8_isKind_9 : decode cX8_isKind 9 = .ok (.iload_n 1, 1) := by decide +kernel
theorem dX8_isKind_10 : decode cX8_isKind 10 = .ok (.iconst 1, 1) := by decide +kernel
theorem dX8_isKind_11 : decode cX8_isKind 11 = .ok (.if_icmp .ne 12, 3) := by decide +kernel
theorem dX8_isKind_14 : decode cX8_isKind 14 = .ok (.iload_n 0, 1) := by decide +kernel
theorem dX8_isKind_15 : decode cX8_isKind 15 = .ok (.iconst 4, 1) := by decide +kernel
theorem dX8_isKind_16 : decode cX8_isKind 16 = .ok (.if_icmp .ne 7, 3) := by decide +kernel
theorem dX8_isKind_19 : decode cX8_isKind 19 = .ok (.iconst 1, 1) := by decide +kernel
theorem dX8_isKind_20 : decode cX8_isKind 20 = .ok (.goto 4, 3) := by decide +kernel
theorem dX8_isKind_23 : decode cX8_isKind 23 = .ok (.iconst 0, 1) := by decide +kernel
theorem dX8_isKind_24 : decode cX8_isKind 24 = .ok (.ireturn, 1) := by decide +kernel
theorem dX8_missedBy_0 : decode cX8_missedBy 0 = .ok (.iload_n 0, 1) := by decide +kernel
theorem dX8_missedBy_1 : decode cX8_missedBy 1 = .ok (.tableswitch 63 1 4 #[31, 41, 43, 53], 31) := by decide +kernel
theorem dX8_missedBy_32 : decode cX8_missedBy 32 = .ok (.iconst 0, 1) := by decide +kernel
theorem dX8_missedBy_33 : decode cX8_missedBy 33 = .ok (.iload_n 1, 1) := by decide +kernel
theorem dX8_missedBy_34 : decode cX8_missedBy 34 = .ok (.iconst 2, 1) := by decide +kernel
theorem dX8_missedBy_35 : decode cX8_missedBy 35 = .ok (.iload_n 2, 1) := by decide +kernel
theorem dX8_missedBy_36 : decode cX8_missedBy 36 = .ok (.imul, 1) := by decide +kernel
theorem dX8_missedBy_37 : decode cX8_missedBy 37 = .ok (.isub, 1) := by decide +kernel
theorem dX8_missedBy_38 : decode cX8_missedBy 38 = .ok (.invokestatic 252, 3) := by decide +kernel
theorem dX8_missedBy_41 : decode cX8_missedBy 41 = .ok (.ireturn, 1) := by decide +kernel
theorem dX8_missedBy_42 : decode cX8_missedBy 42 = .ok (.iload_n 1, 1) := by decide +kernel
theorem dX8_missedBy_43 : decode cX8_missedBy 43 = .ok (.ireturn, 1) := by decide +kernel
theorem dX8_missedBy_44 : decode cX8_missedBy 44 = .ok (.iconst 0, 1) := by decide +kernel
theorem dX8_missedBy_45 : decode cX8_missedBy 45 = .ok (.iload_n 1, 1) := by decide +kernel
theorem dX8_missedBy_46 : decode cX8_missedBy 46 = .ok (.iconst 2, 1) := by decide +kernel
theorem dX8_missedBy_47 : decode cX8_missedBy 47 = .ok (.idiv, 1) := by decide +kernel
theorem dX8_missedBy_48 : decode cX8_missedBy 48 = .ok (.iload_n 2, 1) := by decide +kernel
theorem dX8_missedBy_49 : decode cX8_missedBy 49 = .ok (.isub, 1) := by decide +kernel
theorem dX8_missedBy_50 : decode cX8_missedBy 50 = .ok (.invokestatic 252, 3) := by decide +kernel
theorem dX8_missedBy_53 : decode cX8_missedBy 53 = .ok (.ireturn, 1) := by decide +kernel
theorem dX8_missedBy_54 : decode cX8_missedBy 54 = .ok (.iconst 0, 1) := by decide +kernel
theorem dX8_missedBy_55 : decode cX8_missedBy 55 = .ok (.iload_n 1, 1) := by decide +kernel
theorem dX8_missedBy_56 : decode cX8_missedBy 56 = .ok (.iconst 4, 1) := by decide +kernel
theorem dX8_missedBy_57 : decode cX8_missedBy 57 = .ok (.iload_n 2, 1) := by decide +kernel
theorem dX8_missedBy_58 : decode cX8_missedBy 58 = .ok (.imul, 1) := by decide +kernel
theorem dX8_missedBy_59 : decode cX8_missedBy 59 = .ok (.isub, 1) := by decide +kernel
theorem dX8_missedBy_60 : decode cX8_missedBy 60 = .ok (.invokestatic 252, 3) := by decide +kernel
theorem dX8_missedBy_63 : decode cX8_missedBy 63 = .ok (.ireturn, 1) := by decide +kernel
theorem dX8_missedBy_64 : decode cX8_missedBy 64 = .ok (.iconst 0, 1) := by decide +kernel
theorem dX8_missedBy_65 : decode cX8_missedBy 65 = .ok (.iload_n 1, 1) := by decide +kernel
theorem dX8_missedBy_66 : decode cX8_missedBy 66 = .ok (.iload_n 2, 1) := by decide +kernel
theorem dX8_missedBy_67 : decode cX8_missedBy 67 = .ok (.isub, 1) := by decide +kernel
theorem dX8_missedBy_68 : decode cX8_missedBy 68 = .ok (.invokestatic 252, 3) := by decide +kernel
theorem dX8_missedBy_71 : decode cX8_missedBy 71 = .ok (.ireturn, 1) := by decide +kernel
theorem dX8_power_0 : decode cX8_power 0 = .ok (.iconst 1, 1) := by decide +kernel
theorem dX8_power_1 : decode cX8_power 1 = .ok (.istore_n 2, 1) := by decide +kernel
theorem dX8_power_2 : decode cX8_power 2 = .ok (.iconst 0, 1) := by decide +kernel
theorem dX8_power_3 : decode cX8_power 3 = .ok (.istore_n 3, 1) := by decide +kernel
theorem dX8_power_4 : decode cX8_power 4 = .ok (.iload_n 3, 1) := by decide +kernel
theorem dX8_power_5 : decode cX8_power 5 = .ok (.iload_n 1, 1) := by decide +kernel
theorem dX8_power_6 : decode cX8_power 6 = .ok (.if_icmp .ge 13, 3) := by decide +kernel
theorem dX8_power_9 : decode cX8_power 9 = .ok (.iload_n 2, 1) := by decide +kernel
theorem dX8_power_10 : decode cX8_power 10 = .ok (.iload_n 0, 1) := by decide +kernel
theorem dX8_power_11 : decode cX8_power 11 = .ok (.imul, 1) := by decide +kernel
theorem dX8_power_12 : decode cX8_power 12 = .ok (.istore_n 2, 1) := by decide +kernel
theorem dX8_power_13 : decode cX8_power 13 = .ok (.iinc 3 1, 3) := by decide +kernel
theorem dX8_power_16 : decode cX8_power 16 = .ok (.goto (-12), 3) := by decide +kernel
theorem dX8_power_19 : decode cX8_power 19 = .ok (.iload_n 2, 1) := by decide +kernel
theorem dX8_power_20 : decode cX8_power 20 = .ok (.ireturn, 1) := by decide +kernel
theorem dX8_inLowestTerms_0 : decode cX8_inLowestTerms 0 = .ok (.iload_n 2, 1) := by decide +kernel
theorem dX8_inLowestTerms_1 : decode cX8_inLowestTerms 1 = .ok (.istore_n 3, 1) := by decide +kernel
theorem dX8_inLowestTerms_2 : decode cX8_inLowestTerms 2 = .ok (.iload_n 3, 1) := by decide +kernel
theorem dX8_inLowestTerms_3 : decode cX8_inLowestTerms 3 = .ok (.iconst 1, 1) := by decide +kernel
theorem dX8_inLowestTerms_4 : decode cX8_inLowestTerms 4 = .ok (.if_icmp .le 25, 3) := by decide +kernel
theorem dX8_inLowestTerms_7 : decode cX8_inLowestTerms 7 = .ok (.iload_n 1, 1) := by decide +kernel
theorem dX8_inLowestTerms_8 : decode cX8_inLowestTerms 8 = .ok (.iload_n 3, 1) := by decide +kernel
theorem dX8_inLowestTerms_9 : decode cX8_inLowestTerms 9 = .ok (.irem, 1) := by decide +kernel
theorem dX8_inLowestTerms_10 : decode cX8_inLowestTerms 10 = .ok (.ifCond .ne 13, 3) := by decide +kernel
theorem dX8_inLowestTerms_13 : decode cX8_inLowestTerms 13 = .ok (.iload_n 2, 1) := by decide +kernel
theorem dX8_inLowestTerms_14 : decode cX8_inLowestTerms 14 = .ok (.iload_n 3, 1) := by decide +kernel
theorem dX8_inLowestTerms_15 : decode cX8_inLowestTerms 15 = .ok (.irem, 1) := by decide +kernel
theorem dX8_inLowestTerms_16 : decode cX8_inLowestTerms 16 = .ok (.ifCond .ne 7, 3) := by decide +kernel
theorem dX8_inLowestTerms_19 : decode cX8_inLowestTerms 19 = .ok (.iload_n 0, 1) := by decide +kernel
theorem dX8_inLowestTerms_20 : decode cX8_inLowestTerms 20 = .ok (.iload_n 3, 1) := by decide +kernel
theorem dX8_inLowestTerms_21 : decode cX8_inLowestTerms 21 = .ok (.idiv, 1) := by decide +kernel
theorem dX8_inLowestTerms_22 : decode cX8_inLowestTerms 22 = .ok (.ireturn, 1) := by decide +kernel
theorem dX8_inLowestTerms_23 : decode cX8_inLowestTerms 23 = .ok (.iinc 3 (-1), 3) := by decide +kernel
theorem dX8_inLowestTerms_26 : decode cX8_inLowestTerms 26 = .ok (.goto (-24), 3) := by decide +kernel
theorem dX8_inLowestTerms_29 : decode cX8_inLowestTerms 29 = .ok (.iload_n 0, 1) := by decide +kernel
theorem dX8_inLowestTerms_30 : decode cX8_inLowestTerms 30 = .ok (.ireturn, 1) := by decide +kernel
theorem dJ6_bitCount_0f7a4_0 : decode cJ6_bitCount_0f7a4 0 = .ok (.iload_n 0, 1) := by decide +kernel
theorem dJ6_bitCount_0f7a4_1 : decode cJ6_bitCount_0f7a4 1 = .ok (.iload_n 0, 1) := by decide +kernel
theorem dJ6_bitCount_0f7a4_2 : decode cJ6_bitCount_0f7a4 2 = .ok (.iconst 1, 1) := by decide +kernel
theorem dJ6_bitCount_0f7a4_3 : decode cJ6_bitCount_0f7a4 3 = .ok (.iushr, 1) := by decide +kernel
theorem dJ6_bitCount_0f7a4_4 : decode cJ6_bitCount_0f7a4 4 = .ok (.ldc_w 265, 3) := by decide +kernel
theorem dJ6_bitCount_0f7a4_7 : decode cJ6_bitCount_0f7a4 7 = .ok (.iand, 1) := by decide +kernel
theorem dJ6_bitCount_0f7a4_8 : decode cJ6_bitCount_0f7a4 8 = .ok (.isub, 1) := by decide +kernel
theorem dJ6_bitCount_0f7a4_9 : decode cJ6_bitCount_0f7a4 9 = .ok (.istore_n 0, 1) := by decide +kernel
theorem dJ6_bitCount_0f7a4_10 : decode cJ6_bitCount_0f7a4 10 = .ok (.iload_n 0, 1) := by decide +kernel
theorem dJ6_bitCount_0f7a4_11 : decode cJ6_bitCount_0f7a4 11 = .ok (.ldc_w 266, 3) := by decide +kernel
theorem dJ6_bitCount_0f7a4_14 : decode cJ6_bitCount_0f7a4 14 = .ok (.iand, 1) := by decide +kernel
theorem dJ6_bitCount_0f7a4_15 : decode cJ6_bitCount_0f7a4 15 = .ok (.iload_n 0, 1) := by decide +kernel
theorem dJ6_bitCount_0f7a4_16 : decode cJ6_bitCount_0f7a4 16 = .ok (.iconst 2, 1) := by decide +kernel
theorem dJ6_bitCount_0f7a4_17 : decode cJ6_bitCount_0f7a4 17 = .ok (.iushr, 1) := by decide +kernel
theorem dJ6_bitCount_0f7a4_18 : decode cJ6_bitCount_0f7a4 18 = .ok (.ldc_w 266, 3) := by decide +kernel
theorem dJ6_bitCount_0f7a4_21 : decode cJ6_bitCount_0f7a4 21 = .ok (.iand, 1) := by decide +kernel
theorem dJ6_bitCount_0f7a4_22 : decode cJ6_bitCount_0f7a4 22 = .ok (.iadd, 1) := by decide +kernel
theorem dJ6_bitCount_0f7a4_23 : decode cJ6_bitCount_0f7a4 23 = .ok (.istore_n 0, 1) := by decide +kernel
theorem dJ6_bitCount_0f7a4_24 : decode cJ6_bitCount_0f7a4 24 = .ok (.iload_n 0, 1) := by decide +kernel
theorem dJ6_bitCount_0f7a4_25 : decode cJ6_bitCount_0f7a4 25 = .ok (.iload_n 0, 1) := by decide +kernel
theorem dJ6_bitCount_0f7a4_26 : decode cJ6_bitCount_0f7a4 26 = .ok (.iconst 4, 1) := by decide +kernel
theorem dJ6_bitCount_0f7a4_27 : decode cJ6_bitCount_0f7a4 27 = .ok (.iushr, 1) := by decide +kernel
theorem dJ6_bitCount_0f7a4_28 : decode cJ6_bitCount_0f7a4 28 = .ok (.iadd, 1) := by decide +kernel
theorem dJ6_bitCount_0f7a4_29 : decode cJ6_bitCount_0f7a4 29 = .ok (.ldc_w 267, 3) := by decide +kernel
theorem dJ6_bitCount_0f7a4_32 : decode cJ6_bitCount_0f7a4 32 = .ok (.iand, 1) := by decide +kernel
theorem dJ6_bitCount_0f7a4_33 : decode cJ6_bitCount_0f7a4 33 = .ok (.istore_n 0, 1) := by decide +kernel
theorem dJ6_bitCount_0f7a4_34 : decode cJ6_bitCount_0f7a4 34 = .ok (.iload_n 0, 1) := by decide +kernel
theorem dJ6_bitCount_0f7a4_35 : decode cJ6_bitCount_0f7a4 35 = .ok (.iload_n 0, 1) := by decide +kernel
theorem dJ6_bitCount_0f7a4_36 : decode cJ6_bitCount_0f7a4 36 = .ok (.bipush 8, 2) := by decide +kernel
theorem dJ6_bitCount_0f7a4_38 : decode cJ6_bitCount_0f7a4 38 = .ok (.iushr, 1) := by decide +kernel
theorem dJ6_bitCount_0f7a4_39 : decode cJ6_bitCount_0f7a4 39 = .ok (.iadd, 1) := by decide +kernel
theorem dJ6_bitCount_0f7a4_40 : decode cJ6_bitCount_0f7a4 40 = .ok (.istore_n 0, 1) := by decide +kernel
theorem dJ6_bitCount_0f7a4_41 : decode cJ6_bitCount_0f7a4 41 = .ok (.iload_n 0, 1) := by decide +kernel
theorem dJ6_bitCount_0f7a4_42 : decode cJ6_bitCount_0f7a4 42 = .ok (.iload_n 0, 1) := by decide +kernel
theorem dJ6_bitCount_0f7a4_43 : decode cJ6_bitCount_0f7a4 43 = .ok (.bipush 16, 2) := by decide +kernel
theorem dJ6_bitCount_0f7a4_45 : decode cJ6_bitCount_0f7a4 45 = .ok (.iushr, 1) := by decide +kernel
theorem dJ6_bitCount_0f7a4_46 : decode cJ6_bitCount_0f7a4 46 = .ok (.iadd, 1) := by decide +kernel
theorem dJ6_bitCount_0f7a4_47 : decode cJ6_bitCount_0f7a4 47 = .ok (.istore_n 0, 1) := by decide +kernel
theorem dJ6_bitCount_0f7a4_48 : decode cJ6_bitCount_0f7a4 48 = .ok (.iload_n 0, 1) := by decide +kernel
theorem dJ6_bitCount_0f7a4_49 : decode cJ6_bitCount_0f7a4 49 = .ok (.bipush 63, 2) := by decide +kernel
theorem dJ6_bitCount_0f7a4_51 : decode cJ6_bitCount_0f7a4 51 = .ok (.iand, 1) := by decide +kernel
theorem dJ6_bitCount_0f7a4_52 : decode cJ6_bitCount_0f7a4 52 = .ok (.ireturn, 1) := by decide +kernel
